theorem dX3_begin_0 : decode cX3_begin 0 = .ok (.aload_n 0, 1) := by decide +kernel
theorem dX3_begin_1 : decode cX3_begin 1 = .ok (.iconst 0, 1) := by decide +kernel
theorem dX3_begin_2 : decode cX3_begin 2 = .ok (.putfield 25, 3) := by decide +kernel
theorem dX3_begin_5 : decode cX3_begin 5 = .ok (.aload_n 0, 1) := by decide +kernel
theorem dX3_begin_6 : decode cX3_begin 6 = .ok (.iconst 0, 1) := by decide +kernel
theorem dX3_begin_7 : decode cX3_begin 7 = .ok (.putfield 29, 3) := by decide +kernel
theorem dX3_begin_10 : decode cX3_begin 10 = .ok (.aload_n 0, 1) := by decide +kernel
theorem dX3_begin_11 : decode cX3_begin 11 = .ok (.iconst 0, 1) := by decide +kernel
theorem dX3_begin_12 : decode cX3_begin 12 = .ok (.putfield 32, 3) := by decide +kernel
theorem dX3_begin_15 : decode cX3_begin 15 = .ok (.return_, 1) := by decide +kernel
theorem dX10_end_0 : decode cX10_end 0 = .ok (.iload_n 1, 1) := by decide +kernel
theorem dX10_end_1 : decode cX10_end 1 = .ok (.ifCond .lt 14, 3) := by decide +kernel
theorem dX10_end_4 : decode cX10_end 4 = .ok (.iload_n 1, 1) := by decide +kernel
theorem dX10_end_5 : decode cX10_end 5 = .ok (.aload_n 0, 1) := by decide +kernel
theorem dX10_end_6 : decode cX10_end 6 = .ok (.getfield 10, 3) := by decide +kernel
theorem dX10_end_9 : decode cX10_end 9 = .ok (.getfield 96, 3) := by decide +kernel
theorem dX10_end_12 : decode cX10_end 12 = .ok (.if_icmp .le 5, 3) := by decide +kernel
theorem dX10_end_15 : decode cX10_end 15 = .ok (.iconst 0, 1) := by decide +kernel
theorem dX10_end_16 : decode cX10_end 16 = .ok (.ireturn, 1) := by decide +kernel
theorem dX10_end_17 : decode cX10_end 17 = .ok (.aload_n 0, 1) := by decide +kernel
theorem dX10_end_18 : decode cX10_end 18 = .ok (.getfield 10, 3) := by decide +kernel
theorem dX10_end_21 : decode cX10_end 21 = .ok (.iload_n 1, 1) := by decide +kernel
theorem dX10_end_22 : decode cX10_end 22 = .ok (.putfield 96, 3) := by decide +kernel
theorem dX10_end_25 : decode cX10_end 25 = .ok (.iconst 1, 1) := by decide +kernel
theorem dX10_end_26 : decode cX10_end 26 = .ok (.ireturn, 1) := by decide +kernel
theorem dX10_count_0 : decode cX10_count 0 = .ok (.iload_n 1, 1) := by decide +kernel
theorem dX10_count_1 : decode cX10_count 1 = .ok (.tableswitch 60 0 3 #[31, 39, 47, 52], 31) := by decide +kernel
theorem dX10_count_32 : decode cX10_count 32 = .ok (.aload_n 0, 1) := by decide +kernel
theorem dX10_count_33 : decode cX10_count 33 = .ok (.getfield 28, 3) := by decide +kernel
theorem dX10_count_36 : decode cX10_count 36 = .ok (.getfield 108, 3) := by decide +kernel
theorem dX10_count_39 : decode cX10_count 39 = .ok (.ireturn, 1) := by decide +kernel
theorem dX10_count_40 : decode cX10_count 40 = .ok (.aload_n 0, 1) := by decide +kernel
theorem dX10_count_41 : decode cX10_count 41 = .ok (.getfield 10, 3) := by decide +kernel
theorem dX10_count_44 : decode cX10_count 44 = .ok (.getfield 96, 3) := by decide +kernel
theorem dX10_count_47 : decode cX10_count 47 = .ok (.ireturn, 1) := by decide +kernel
theorem dX10_count_48 : decode cX10_count 48 = .ok (.aload_n 0, 1) := by decide +kernel
theorem dX10_count_49 : decode cX10_count 49 = .ok (.getfield 134, 3) := by decide +kernel
theorem dX10_count_52 : decode cX10_count 52 = .ok (.ireturn, 1) := by decide +kernel
theorem dX10_count_53 : decode cX10_count 53 = .ok (.aload_n 0, 1) := by decide +kernel
theorem dX10_count_54 : decode cX10_count 54 = .ok (.getfield 84, 3) := by decide +kernel
theorem dX10_count_57 : decode cX10_count 57 = .ok (.getfield 137, 3) := by decide +kernel
theorem dX10_count_60 : decode cX10_count 60 = .ok (.ireturn, 1) := by decide +kernel
theorem dX10_count_61 : decode cX10_count 61 = .ok (.ldc 140, 2) := by decide +kernel
theorem dX10_count_63 : decode cX10_count 63 = .ok (.ireturn, 1) := by decide +kernel
set_option maxRecDepth 20000 in
theorem ggX10_solid_X10_isSolid : GoodIn wsX10_solid wsX10_isSolid := goodIn_r _ [6] (by decide +kernel) (by decide +kernel)
set_option maxRecDepth 20000 in
theorem gX10_solid_X10_isSolid : GoodIn wsX10_solid (va_wsS RX10 194 yX10_isSolid wsX10_isSolid) := goodIn_app (goodIn_of _ (by decide +kernel)) ggX10_solid_X10_isSolid
set_option maxRecDepth 20000 in
theorem ggX10_solid_X1_sixOfSolid : GoodIn wsX10_solid wsX1_sixOfSolid := goodIn_r _ [11, 12, 13, 14, 94, 95, 96, 97, 98, 99] (by decide +kernel) (by decide +kernel)
set_option maxRecDepth 20000 in
theorem gX10_solid_X1_sixOfSolid : GoodIn wsX10_solid (wsV RX10 197 RX1 yX1_sixOfSolid wsX1_sixOfSolid) := goodIn_app (goodIn_of _ (by decide +kernel)) ggX10_solid_X1_sixOfSolid
set_option maxRecDepth 20000 in
theorem ggX10_solid_X1_tetsOfSolid : GoodIn wsX10_solid wsX1_tetsOfSolid := goodIn_r _ [18, 12, 13, 94, 95, 96, 97, 98, 99] (by decide +kernel) (by decide +kernel)
set_option maxRecDepth 20000 in
theorem gX10_solid_X1_tetsOfSolid : GoodIn wsX10_solid (wsV RX10 200 RX1 yX1_tetsOfSolid wsX1_tetsOfSolid) := goodIn_app (goodIn_of _ (by decide +kernel)) ggX10_solid_X1_tetsOfSolid
set_option maxRecDepth 20000 in
theorem ggX10_solid_X10_oddEdges : GoodIn wsX10_solid wsX10_oddEdges := goodIn_r _ [22, 1, 23, 24, 25, 26, 27, 28, 29, 30, 31, 32, 33, 34, 35, 36, 37, 38, 39, 40, 41, 42, 43, 44, 45, 46, 47, 48, 49, 50, 51, 52, 53, 54, 55, 56, 57, 58, 59, 10, 60, 61, 5, 62, 63, 64, 65, 66, 67, 68, 69, 81, 82, 83, 84, 85, 86, 87, 88, 89, 90, 91, 92, 93, 94, 95, 96, 97, 98, 99, 100, 101, 102, 103, 104, 105, 106, 107, 108, 109, 110, 111, 112] (by decide +kernel) (by decide +kernel)
set_option maxRecDepth 20000 in
theorem gX10_solid_X10_oddEdges : GoodIn wsX10_solid (wsV RX10 203 RX10 yX10_oddEdges wsX10_oddEdges) := goodIn_app (goodIn_of _ (by decide +kernel)) ggX10_solid_X10_oddEdges
set_option maxRecDepth 20000 in
theorem ggX10_solid_X8_terms : GoodIn wsX10_solid wsX8_terms := goodIn_r _ [74, 75, 76, 77, 78, 73, 79, 80, 113, 114, 115, 116] (by decide +kernel) (by decide +kernel)
set_option maxRecDepth 20000 in
theorem gX10_solid_X8_terms : GoodIn wsX10_solid (wsV RX10 206 RX8 yX8_terms wsX8_terms) := goodIn_app (goodIn_of _ (by decide +kernel)) ggX10_solid_X8_terms
theorem dX10_solid_0 : decode cX10_solid 0 = .ok (.iload_n 1, 1) := by decide +kernel
theorem dX10_solid_1 : decode cX10_solid 1 = .ok (.invokestatic 194, 3) := by decide +kernel
theorem dX10_solid_4 : decode cX10_solid 4 = .ok (.ifCond .ne 5, 3) := by decide +kernel
theorem dX10_solid_7 : decode cX10_solid 7 = .ok (.iconst (-1), 1) := by decide +kernel
theorem dX10_solid_8 : decode cX10_solid 8 = .ok (.ireturn, 1) := by decide +kernel
theorem dX10_solid_9 : decode cX10_solid 9 = .ok (.iload_n 2, 1) := by decide +kernel
theorem dX10_solid_10 : decode cX10_solid 10 = .ok (.tableswitch 63 0 3 #[30, 39, 48, 54], 30) := by decide +kernel
theorem dX10_solid_40 : decode cX10_solid 40 = .ok (.aload_n 0, 1) := by decide +kernel
theorem dX10_solid_41 : decode cX10_solid 41 = .ok (.getfield 28, 3) := by decide +kernel
theorem dX10_solid_44 : decode cX10_solid 44 = .ok (.iload_n 1, 1) := by decide +kernel
theorem dX10_solid_45 : decode cX10_solid 45 = .ok (.invokevirtual 197, 3) := by decide +kernel
theorem dX10_solid_48 : decode cX10_solid 48 = .ok (.ireturn, 1) := by decide +kernel
theorem dX10_solid_49 : decode cX10_solid 49 = .ok (.aload_n 0, 1) := by decide +kernel
theorem dX10_solid_50 : decode cX10_solid 50 = .ok (.getfield 28, 3) := by decide +kernel
theorem dX10_solid_53 : decode cX10_solid 53 = .ok (.iload_n 1, 1) := by decide +kernel
theorem dX10_solid_54 : decode cX10_solid 54 = .ok (.invokevirtual 200, 3) := by decide +kernel
theorem dX10_solid_57 : decode cX10_solid 57 = .ok (.ireturn, 1) := by decide +kernel
theorem dX10_solid_58 : decode cX10_solid 58 = .ok (.aload_n 0, 1) := by decide +kernel
theorem dX10_solid_59 : decode cX10_solid 59 = .ok (.iload_n 1, 1) := by decide +kernel
theorem dX10_solid_60 : decode cX10_solid 60 = .ok (.invokevirtual 203, 3) := by decide +kernel
theorem dX10_solid_63 : decode cX10_solid 63 = .ok (.ireturn, 1) := by decide +kernel
theorem dX10_solid_64 : decode cX10_solid 64 = .ok (.aload_n 0, 1) := by decide +kernel
theorem dX10_solid_65 : decode cX10_solid 65 = .ok (.getfield 51, 3) := by decide +kernel
theorem dX10_solid_68 : decode cX10_solid 68 = .ok (.iload_n 1, 1) := by decide +kernel
theorem dX10_solid_69 : decode cX10_solid 69 = .ok (.invokevirtual 206, 3) := by decide +kernel
theorem dX10_solid_72 : decode cX10_solid 72 = .ok (.ireturn, 1) := by decide +kernel
theorem dX10_solid_73 : decode cX10_solid 73 = .ok (.iconst (-1), 1) := by decide +kernel
theorem dX10_solid_74 : decode cX10_solid 74 = .ok (.ireturn, 1) := by decide +kernel
set_option maxRecDepth 20000 in
theorem ggX10_term_X10_isSolid : GoodIn wsX10_term wsX10_isSolid := goodIn_r _ [8] (by decide +kernel) (by decide +kernel)
set_option maxRecDepth 20000 in
theorem gX10_term_X10_isSolid : GoodIn wsX10_term (va_wsS RX10 194 yX10_isSolid wsX10_isSolid) := goodIn_app (goodIn_of _ (by decide +kernel)) ggX10_term_X10_isSolid
set_option maxRecDepth 20000 in
theorem ggX10_term_X8_rowOfTerm : GoodIn wsX10_term wsX8_rowOfTerm := goodIn_r _ [13, 14, 15, 16, 17, 12, 18, 19, 34, 35, 36, 37] (by decide +kernel) (by decide +kernel)
set_option maxRecDepth 20000 in
theorem gX10_term_X8_rowOfTerm : GoodIn wsX10_term (wsV RX10 209 RX8 yX8_rowOfTerm wsX8_rowOfTerm) := goodIn_app (goodIn_of _ (by decide +kernel)) ggX10_term_X8_rowOfTerm
theorem dX10_term_0 : decode cX10_term 0 = .ok (.iload_n 1, 1) := by decide +kernel
theorem dX10_term_1 : decode cX10_term 1 = .ok (.invokestatic 194, 3) := by decide +kernel
theorem dX10_term_4 : decode cX10_term 4 = .ok (.ifCond .ne 6, 3) := by decide +kernel
theorem dX10_term_7 : decode cX10_term 7 = .ok (.ldc 140, 2) := by decide +kernel
theorem dX10_term_9 : decode cX10_term 9 = .ok (.ireturn, 1) := by decide +kernel
theorem dX10_term_10 : decode cX10_term 10 = .ok (.aload_n 0, 1) := by decide +kernel
theorem dX10_term_11 : decode cX10_term 11 = .ok (.getfield 51, 3) := by decide +kernel
theorem dX10_term_14 : decode cX10_term 14 = .ok (.iload_n 1, 1) := by decide +kernel
theorem dX10_term_15 : decode cX10_term 15 = .ok (.iload_n 2, 1) := by decide +kernel
theorem dX10_term_16 : decode cX10_term 16 = .ok (.invokevirtual 209, 3) := by decide +kernel
theorem dX10_term_19 : decode cX10_term 19 = .ok (.istore 4, 2) := by decide +kernel
theorem dX10_term_21 : decode cX10_term 21 = .ok (.iload 4, 2) := by decide +kernel
theorem dX10_term_23 : decode cX10_term 23 = .ok (.ifCond .ge 6, 3) := by decide +kernel
theorem dX10_term_26 : decode cX10_term 26 = .ok (.ldc 140, 2) := by decide +kernel
theorem dX10_term_28 : decode cX10_term 28 = .ok (.ireturn, 1) := by decide +kernel
set_option maxRecDepth 20000 in
theorem ggX10_much_X10_isSolid : GoodIn wsX10_much wsX10_isSolid := goodIn_r _ [6] (by decide +kernel) (by decide +kernel)
set_option maxRecDepth 20000 in
theorem gX10_much_X10_isSolid : GoodIn wsX10_much (va_wsS RX10 194 yX10_isSolid wsX10_isSolid) := goodIn_app (goodIn_of _ (by decide +kernel)) ggX10_much_X10_isSolid
set_option maxRecDepth 20000 in
theorem ggX10_much_X8_firstNotBelow : GoodIn wsX10_much wsX8_firstNotBelow := goodIn_r _ [11, 12, 13, 14, 37, 38, 39, 40] (by decide +kernel) (by decide +kernel)
set_option maxRecDepth 20000 in
theorem gX10_much_X8_firstNotBelow : GoodIn wsX10_much (wsV RX10 222 RX8 yX8_firstNotBelow wsX8_firstNotBelow) := goodIn_app (goodIn_of _ (by decide +kernel)) ggX10_much_X8_firstNotBelow
set_option maxRecDepth 20000 in
theorem ggX10_much_X8_isAt : GoodIn wsX10_much wsX8_isAt := goodIn_r _ [18, 12, 13, 14, 37, 38, 39, 40] (by decide +kernel) (by decide +kernel)
set_option maxRecDepth 20000 in
theorem gX10_much_X8_isAt : GoodIn wsX10_much (wsV RX10 225 RX8 yX8_isAt wsX8_isAt) := goodIn_app (goodIn_of _ (by decide +kernel)) ggX10_much_X8_isAt
theorem dX10_much_0 : decode cX10_much 0 = .ok (.iload_n 1, 1) := by decide +kernel
theorem dX10_much_1 : decode cX10_much 1 = .ok (.invokestatic 194, 3) := by decide +kernel
theorem dX10_much_4 : decode cX10_much 4 = .ok (.ifCond .ne 6, 3) := by decide +kernel
theorem dX10_much_7 : decode cX10_much 7 = .ok (.ldc 140, 2) := by decide +kernel
theorem dX10_much_9 : decode cX10_much 9 = .ok (.ireturn, 1) := by decide +kernel
theorem dX10_much_10 : decode cX10_much 10 = .ok (.aload_n 0, 1) := by decide +kernel
theorem dX10_much_11 : decode cX10_much 11 = .ok (.getfield 51, 3) := by decide +kernel
theorem dX10_much_14 : decode cX10_much 14 = .ok (.iload_n 2, 1) := by decide +kernel
theorem dX10_much_15 : decode cX10_much 15 = .ok (.iload_n 3, 1) := by decide +kernel
theorem dX10_much_16 : decode cX10_much 16 = .ok (.invokevirtual 222, 3) := by decide +kernel
theorem dX10_much_19 : decode cX10_much 19 = .ok (.istore 4, 2) := by decide +kernel
theorem dX10_much_21 : decode cX10_much 21 = .ok (.aload_n 0, 1) := by decide +kernel
theorem dX10_much_22 : decode cX10_much 22 = .ok (.getfield 51, 3) := by decide +kernel
theorem dX10_much_25 : decode cX10_much 25 = .ok (.iload 4, 2) := by decide +kernel
theorem dX10_much_27 : decode cX10_much 27 = .ok (.iload_n 2, 1) := by decide +kernel
theorem dX10_much_28 : decode cX10_much 28 = .ok (.iload_n 3, 1) := by decide +kernel
theorem dX10_much_29 : decode cX10_much 29 = .ok (.invokevirtual 225, 3) := by decide +kernel
theorem dX10_much_32 : decode cX10_much 32 = .ok (.ifCond .eq 16, 3) := by decide +kernel
theorem dX10_much_48 : decode cX10_much 48 = .ok (.iconst 0, 1) := by decide +kernel
theorem dX10_much_49 : decode cX10_much 49 = .ok (.ireturn, 1) := by decide +kernel
set_option maxRecDepth 20000 in
theorem ggX10_alike_X10_isSolid : GoodIn wsX10_alike wsX10_isSolid := goodIn_r _ [6] (by decide +kernel) (by decide +kernel)
set_option maxRecDepth 20000 in
theorem gX10_alike_X10_isSolid : GoodIn wsX10_alike (va_wsS RX10 194 yX10_isSolid wsX10_isSolid) := goodIn_app (goodIn_of _ (by decide +kernel)) ggX10_alike_X10_isSolid
set_option maxRecDepth 20000 in
theorem ggX10_alike_X1_sixOfSolid : GoodIn wsX10_alike wsX1_sixOfSolid := goodIn_r _ [11, 12, 13, 14, 39, 40, 41, 42, 43, 44] (by decide +kernel) (by decide +kernel)
set_option maxRecDepth 20000 in
theorem gX10_alike_X1_sixOfSolid : GoodIn wsX10_alike (wsV RX10 197 RX1 yX1_sixOfSolid wsX1_sixOfSolid) := goodIn_app (goodIn_of _ (by decide +kernel)) ggX10_alike_X1_sixOfSolid
set_option maxRecDepth 20000 in
theorem ggX10_alike_X8_firstUnlike : GoodIn wsX10_alike wsX8_firstUnlike := goodIn_r _ [19, 20, 21, 22, 23, 18, 24, 25, 45, 46, 47, 48] (by decide +kernel) (by decide +kernel)
set_option maxRecDepth 20000 in
theorem gX10_alike_X8_firstUnlike : GoodIn wsX10_alike (wsV RX10 229 RX8 yX8_firstUnlike wsX8_firstUnlike) := goodIn_app (goodIn_of _ (by decide +kernel)) ggX10_alike_X8_firstUnlike
theorem dX10_alike_0 : decode cX10_alike 0 = .ok (.iload_n 1, 1) := by decide +kernel
theorem dX10_alike_1 : decode cX10_alike 1 = .ok (.invokestatic 194, 3) := by decide +kernel
theorem dX10_alike_4 : decode cX10_alike 4 = .ok (.ifCond .eq 10, 3) := by decide +kernel
theorem dX10_alike_7 : decode cX10_alike 7 = .ok (.iload_n 2, 1) := by decide +kernel
theorem dX10_alike_8 : decode cX10_alike 8 = .ok (.invokestatic 194, 3) := by decide +kernel
theorem dX10_alike_11 : decode cX10_alike 11 = .ok (.ifCond .ne 5, 3) := by decide +kernel
theorem dX10_alike_14 : decode cX10_alike 14 = .ok (.iconst (-1), 1) := by decide +kernel
theorem dX10_alike_15 : decode cX10_alike 15 = .ok (.ireturn, 1) := by decide +kernel
theorem dX10_alike_16 : decode cX10_alike 16 = .ok (.aload_n 0, 1) := by decide +kernel
theorem dX10_alike_17 : decode cX10_alike 17 = .ok (.getfield 28, 3) := by decide +kernel
theorem dX10_alike_20 : decode cX10_alike 20 = .ok (.iload_n 1, 1) := by decide +kernel
theorem dX10_alike_21 : decode cX10_alike 21 = .ok (.invokevirtual 197, 3) := by decide +kernel
theorem dX10_alike_24 : decode cX10_alike 24 = .ok (.aload_n 0, 1) := by decide +kernel
theorem dX10_alike_25 : decode cX10_alike 25 = .ok (.getfield 28, 3) := by decide +kernel
theorem dX10_alike_28 : decode cX10_alike 28 = .ok (.iload_n 2, 1) := by decide +kernel
theorem dX10_alike_29 : decode cX10_alike 29 = .ok (.invokevirtual 197, 3) := by decide +kernel
theorem dX10_alike_32 : decode cX10_alike 32 = .ok (.if_icmp .eq 5, 3) := by decide +kernel
theorem dX10_alike_37 : decode cX10_alike 37 = .ok (.aload_n 0, 1) := by decide +kernel
theorem dX10_alike_38 : decode cX10_alike 38 = .ok (.getfield 51, 3) := by decide +kernel
theorem dX10_alike_41 : decode cX10_alike 41 = .ok (.iload_n 1, 1) := by decide +kernel
theorem dX10_alike_42 : decode cX10_alike 42 = .ok (.iload_n 2, 1) := by decide +kernel
theorem dX10_alike_43 : decode cX10_alike 43 = .ok (.invokevirtual 229, 3) := by decide +kernel
theorem dX10_alike_46 : decode cX10_alike 46 = .ok (.ifCond .ge 7, 3) := by decide +kernel
theorem dX10_alike_49 : decode cX10_alike 49 = .ok (.iconst 0, 1) := by decide +kernel
theorem dX10_alike_50 : decode cX10_alike 50 = .ok (.goto 4, 3) := by decide +kernel
theorem dX10_alike_54 : decode cX10_alike 54 = .ok (.ireturn, 1) := by decide +kernel
set_option maxRecDepth 20000 in
theorem ggX10_unlike_X10_isSolid : GoodIn wsX10_unlike wsX10_isSolid := goodIn_r _ [8] (by decide +kernel) (by decide +kernel)
set_option maxRecDepth 20000 in
theorem gX10_unlike_X10_isSolid : GoodIn wsX10_unlike (va_wsS RX10 194 yX10_isSolid wsX10_isSolid) := goodIn_app (goodIn_of _ (by decide +kernel)) ggX10_unlike_X10_isSolid
set_option maxRecDepth 20000 in
theorem ggX10_unlike_X8_firstUnlike : GoodIn wsX10_unlike wsX8_firstUnlike := goodIn_r _ [13, 14, 15, 16, 17, 12, 18, 19, 34, 35, 36, 37] (by decide +kernel) (by decide +kernel)
set_option maxRecDepth 20000 in
theorem gX10_unlike_X8_firstUnlike : GoodIn wsX10_unlike (wsV RX10 229 RX8 yX8_firstUnlike wsX8_firstUnlike) := goodIn_app (goodIn_of _ (by decide +kernel)) ggX10_unlike_X8_firstUnlike
theorem dX10_unlike_0 : decode cX10_unlike 0 = .ok (.iload_n 1, 1) := by decide +kernel
theorem dX10_unlike_1 : decode cX10_unlike 1 = .ok (.invokestatic 194, 3) := by decide +kernel
theorem dX10_unlike_4 : decode cX10_unlike 4 = .ok (.ifCond .eq 10, 3) := by decide +kernel
theorem dX10_unlike_7 : decode cX10_unlike 7 = .ok (.iload_n 2, 1) := by decide +kernel
theorem dX10_unlike_8 : decode cX10_unlike 8 = .ok (.invokestatic 194, 3) := by decide +kernel
theorem dX10_unlike_11 : decode cX10_unlike 11 = .ok (.ifCond .ne 6, 3) := by decide +kernel
theorem dX10_unlike_14 : decode cX10_unlike 14 = .ok (.ldc 140, 2) := by decide +kernel
theorem dX10_unlike_16 : decode cX10_unlike 16 = .ok (.ireturn, 1) := by decide +kernel
theorem dX10_unlike_17 : decode cX10_unlike 17 = .ok (.aload_n 0, 1) := by decide +kernel
theorem dX10_unlike_18 : decode cX10_unlike 18 = .ok (.getfield 51, 3) := by decide +kernel
theorem dX10_unlike_21 : decode cX10_unlike 21 = .ok (.iload_n 1, 1) := by decide +kernel
theorem dX10_unlike_22 : decode cX10_unlike 22 = .ok (.iload_n 2, 1) := by decide +kernel
theorem dX10_unlike_23 : decode cX10_unlike 23 = .ok (.invokevirtual 229, 3) := by decide +kernel
theorem dX10_unlike_26 : decode cX10_unlike 26 = .ok (.istore 4, 2) := by decide +kernel
theorem dX10_unlike_28 : decode cX10_unlike 28 = .ok (.iload 4, 2) := by decide +kernel
theorem dX10_unlike_30 : decode cX10_unlike 30 = .ok (.ifCond .ge 6, 3) := by decide +kernel
theorem dX10_unlike_33 : decode cX10_unlike 33 = .ok (.ldc 140, 2) := by decide +kernel
theorem dX10_unlike_35 : decode cX10_unlike 35 = .ok (.ireturn, 1) := by decide +kernel
set_option maxRecDepth 20000 in
theorem ggX10_lacks_X10_isSolid : GoodIn wsX10_lacks wsX10_isSolid := goodIn_r _ [6] (by decide +kernel) (by decide +kernel)
set_option maxRecDepth 20000 in
theorem gX10_lacks_X10_isSolid : GoodIn wsX10_lacks (va_wsS RX10 194 yX10_isSolid wsX10_isSolid) := goodIn_app (goodIn_of _ (by decide +kernel)) ggX10_lacks_X10_isSolid
set_option maxRecDepth 20000 in
theorem ggX10_lacks_X1_sixOfSolid : GoodIn wsX10_lacks wsX1_sixOfSolid := goodIn_r _ [11, 12, 13, 14, 28, 29, 30, 31, 32, 33] (by decide +kernel) (by decide +kernel)
set_option maxRecDepth 20000 in
theorem gX10_lacks_X1_sixOfSolid : GoodIn wsX10_lacks (wsV RX10 197 RX1 yX1_sixOfSolid wsX1_sixOfSolid) := goodIn_app (goodIn_of _ (by decide +kernel)) ggX10_lacks_X1_sixOfSolid
theorem dX10_lacks_0 : decode cX10_lacks 0 = .ok (.iload_n 1, 1) := by decide +kernel
theorem dX10_lacks_1 : decode cX10_lacks 1 = .ok (.invokestatic 194, 3) := by decide +kernel
theorem dX10_lacks_4 : decode cX10_lacks 4 = .ok (.ifCond .eq 10, 3) := by decide +kernel
theorem dX10_lacks_7 : decode cX10_lacks 7 = .ok (.iload_n 2, 1) := by decide +kernel
theorem dX10_lacks_8 : decode cX10_lacks 8 = .ok (.invokestatic 194, 3) := by decide +kernel
theorem dX10_lacks_11 : decode cX10_lacks 11 = .ok (.ifCond .ne 6, 3) := by decide +kernel
theorem dX10_lacks_14 : decode cX10_lacks 14 = .ok (.ldc 140, 2) := by decide +kernel
theorem dX10_lacks_16 : decode cX10_lacks 16 = .ok (.ireturn, 1) := by decide +kernel
theorem dX10_lacks_17 : decode cX10_lacks 17 = .ok (.aload_n 0, 1) := by decide +kernel
theorem dX10_lacks_18 : decode cX10_lacks 18 = .ok (.getfield 28, 3) := by decide +kernel
theorem dX10_lacks_21 : decode cX10_lacks 21 = .ok (.iload_n 1, 1) := by decide +kernel
theorem dX10_lacks_22 : decode cX10_lacks 22 = .ok (.invokevirtual 197, 3) := by decide +kernel
theorem dX10_lacks_25 : decode cX10_lacks 25 = .ok (.aload_n 0, 1) := by decide +kernel
theorem dX10_lacks_26 : decode cX10_lacks 26 = .ok (.getfield 28, 3) := by decide +kernel
theorem dX10_lacks_29 : decode cX10_lacks 29 = .ok (.iload_n 2, 1) := by decide +kernel
theorem dX10_lacks_30 : decode cX10_lacks 30 = .ok (.invokevirtual 197, 3) := by decide +kernel
theorem dX10_lacks_33 : decode cX10_lacks 33 = .ok (.isub, 1) := by decide +kernel
theorem dX10_lacks_34 : decode cX10_lacks 34 = .ok (.ireturn, 1) := by decide +kernel
set_option maxRecDepth 20000 in
theorem ggX10_give_X1_has : GoodIn wsX10_give wsX1_has := goodIn_r _ [7, 8, 177, 178, 179, 180, 181, 182] (by decide +kernel) (by decide +kernel)
set_option maxRecDepth 20000 in
theorem gX10_give_X1_has : GoodIn wsX10_give (wsV RX10 141 RX1 yX1_has wsX1_has) := goodIn_app (goodIn_of _ (by decide +kernel)) ggX10_give_X1_has
theorem dX10_give_0 : decode cX10_give 0 = .ok (.aload_n 0, 1) := by decide +kernel
theorem dX10_give_1 : decode cX10_give 1 = .ok (.getfield 28, 3) := by decide +kernel
theorem dX10_give_4 : decode cX10_give 4 = .ok (.iload_n 1, 1) := by decide +kernel
theorem dX10_give_5 : decode cX10_give 5 = .ok (.invokevirtual 141, 3) := by decide +kernel
theorem dX10_give_8 : decode cX10_give 8 = .ok (.ifCond .eq 10, 3) := by decide +kernel
theorem dX10_give_18 : decode cX10_give 18 = .ok (.iconst (-1), 1) := by decide +kernel
theorem dX10_give_19 : decode cX10_give 19 = .ok (.ireturn, 1) := by decide +kernel
set_option maxRecDepth 20000 in
theorem ggX10_unpick_X10_forgetPicks : GoodIn wsX10_unpick wsX10_forgetPicks := goodIn_r _ [6, 1, 7, 8, 9, 10, 11, 12, 13, 14, 15, 16, 17, 18, 19, 20, 21, 22, 23, 24, 25, 26, 27, 28, 29, 30] (by decide +kernel) (by decide +kernel)
set_option maxRecDepth 20000 in
theorem gX10_unpick_X10_forgetPicks : GoodIn wsX10_unpick (wsV RX10 114 RX10 yX10_forgetPicks wsX10_forgetPicks) := goodIn_app (goodIn_of _ (by decide +kernel)) ggX10_unpick_X10_forgetPicks
theorem dX10_unpick_0 : decode cX10_unpick 0 = .ok (.aload_n 0, 1) := by decide +kernel
theorem dX10_unpick_1 : decode cX10_unpick 1 = .ok (.getfield 134, 3) := by decide +kernel
theorem dX10_unpick_4 : decode cX10_unpick 4 = .ok (.istore_n 1, 1) := by decide +kernel
theorem dX10_unpick_5 : decode cX10_unpick 5 = .ok (.aload_n 0, 1) := by decide +kernel
theorem dX10_unpick_6 : decode cX10_unpick 6 = .ok (.invokevirtual 114, 3) := by decide +kernel
theorem dX10_unpick_9 : decode cX10_unpick 9 = .ok (.iload_n 1, 1) := by decide +kernel
theorem dX10_unpick_10 : decode cX10_unpick 10 = .ok (.ireturn, 1) := by decide +kernel
set_option maxRecDepth 20000 in
theorem ggX10_rank_X10_hangPicks : GoodIn wsX10_rank wsX10_hangPicks := goodIn_r _ [7, 1, 8, 9, 10, 11, 12, 13, 14, 15, 16, 17, 18, 19, 20, 21, 22, 23, 24, 25, 26, 27, 28, 29, 30, 31, 32, 33, 34, 35, 36, 37, 38, 39, 40, 41, 42, 43, 44, 45, 46, 47, 48, 49, 50, 6, 51, 52, 53, 54, 55, 56, 57, 58, 59, 60, 61, 62, 63, 64, 65, 66, 67, 68, 69, 70, 71, 72, 73, 74, 75, 76, 77, 78, 79] (by decide +kernel) (by decide +kernel)
set_option maxRecDepth 20000 in
theorem gX10_rank_X10_hangPicks : GoodIn wsX10_rank (wsV RX10 310 RX10 yX10_hangPicks wsX10_hangPicks) := goodIn_app (goodIn_of _ (by decide +kernel)) ggX10_rank_X10_hangPicks
theorem dX10_rank_0 : decode cX10_rank 0 = .ok (.aload_n 0, 1) := by decide +kernel
theorem dX10_rank_1 : decode cX10_rank 1 = .ok (.invokevirtual 310, 3) := by decide +kernel
theorem dX10_rank_4 : decode cX10_rank 4 = .ok (.aload_n 0, 1) := by decide +kernel
theorem dX10_rank_5 : decode cX10_rank 5 = .ok (.getfield 61, 3) := by decide +kernel
theorem dX10_rank_8 : decode cX10_rank 8 = .ok (.getfield 313, 3) := by decide +kernel
theorem dX10_rank_11 : decode cX10_rank 11 = .ok (.ireturn, 1) := by decide +kernel
theorem dX10_relation_0 : decode cX10_relation 0 = .ok (.iload_n 1, 1) := by decide +kernel
theorem dX10_relation_1 : decode cX10_relation 1 = .ok (.ifCond .lt 11, 3) := by decide +kernel
theorem dX10_relation_4 : decode cX10_relation 4 = .ok (.iload_n 1, 1) := by decide +kernel
theorem dX10_relation_5 : decode cX10_relation 5 = .ok (.aload_n 0, 1) := by decide +kernel
theorem dX10_relation_6 : decode cX10_relation 6 = .ok (.getfield 134, 3) := by decide +kernel
theorem dX10_relation_9 : decode cX10_relation 9 = .ok (.if_icmp .lt 6, 3) := by decide +kernel
theorem dX10_relation_12 : decode cX10_relation 12 = .ok (.ldc 140, 2) := by decide +kernel
theorem dX10_relation_14 : decode cX10_relation 14 = .ok (.ireturn, 1) := by decide +kernel
set_option maxRecDepth 20000 in
theorem ggX10_multiples_X10_isSolid : GoodIn wsX10_multiples wsX10_isSolid := goodIn_r _ [11] (by decide +kernel) (by decide +kernel)
set_option maxRecDepth 20000 in
theorem gX10_multiples_X10_isSolid : GoodIn wsX10_multiples (va_wsS RX10 194 yX10_isSolid wsX10_isSolid) := goodIn_app (goodIn_of _ (by decide +kernel)) ggX10_multiples_X10_isSolid
set_option maxRecDepth 20000 in
theorem ggX10_multiples_X8_rowOfTerm : GoodIn wsX10_multiples wsX8_rowOfTerm := goodIn_r _ [16, 17, 18, 19, 20, 15, 21, 22, 52, 53, 54, 55] (by decide +kernel) (by decide +kernel)
set_option maxRecDepth 20000 in
theorem gX10_multiples_X8_rowOfTerm : GoodIn wsX10_multiples (wsV RX10 209 RX8 yX8_rowOfTerm wsX8_rowOfTerm) := goodIn_app (goodIn_of _ (by decide +kernel)) ggX10_multiples_X8_rowOfTerm
theorem dX10_multiples_0 : decode cX10_multiples 0 = .ok (.iload_n 1, 1) := by decide +kernel
theorem dX10_multiples_1 : decode cX10_multiples 1 = .ok (.invokestatic 194, 3) := by decide +kernel
theorem dX10_multiples_4 : decode cX10_multiples 4 = .ok (.ifCond .eq 19, 3) := by decide +kernel
theorem dX10_multiples_7 : decode cX10_multiples 7 = .ok (.iload_n 2, 1) := by decide +kernel
theorem dX10_multiples_8 : decode cX10_multiples 8 = .ok (.invokestatic 194, 3) := by decide +kernel
theorem dX10_multiples_11 : decode cX10_multiples 11 = .ok (.ifCond .eq 12, 3) := by decide +kernel
theorem dX10_multiples_14 : decode cX10_multiples 14 = .ok (.iload_n 3, 1) := by decide +kernel
theorem dX10_multiples_15 : decode cX10_multiples 15 = .ok (.ifCond .lt 8, 3) := by decide +kernel
theorem dX10_multiples_18 : decode cX10_multiples 18 = .ok (.iload_n 3, 1) := by decide +kernel
theorem dX10_multiples_19 : decode cX10_multiples 19 = .ok (.iconst 2, 1) := by decide +kernel
theorem dX10_multiples_20 : decode cX10_multiples 20 = .ok (.if_icmp .le 7, 3) := by decide +kernel
theorem dX10_multiples_23 : decode cX10_multiples 23 = .ok (.ldc2_w 333, 3) := by decide +kernel
theorem dX10_multiples_26 : decode cX10_multiples 26 = .ok (.lreturn, 1) := by decide +kernel
theorem dX10_multiples_27 : decode cX10_multiples 27 = .ok (.aload_n 0, 1) := by decide +kernel
theorem dX10_multiples_28 : decode cX10_multiples 28 = .ok (.getfield 51, 3) := by decide +kernel
theorem dX10_multiples_31 : decode cX10_multiples 31 = .ok (.iload_n 1, 1) := by decide +kernel
theorem dX10_multiples_32 : decode cX10_multiples 32 = .ok (.iconst 0, 1) := by decide +kernel
theorem dX10_multiples_33 : decode cX10_multiples 33 = .ok (.invokevirtual 209, 3) := by decide +kernel
theorem dX10_multiples_36 : decode cX10_multiples 36 = .ok (.istore 4, 2) := by decide +kernel
theorem dX10_multiples_38 : decode cX10_multiples 38 = .ok (.iload 4, 2) := by decide +kernel
theorem dX10_multiples_40 : decode cX10_multiples 40 = .ok (.ifCond .ge 7, 3) := by decide +kernel
theorem dX10_multiples_43 : decode cX10_multiples 43 = .ok (.ldc2_w 333, 3) := by decide +kernel
theorem dX10_multiples_46 : decode cX10_multiples 46 = .ok (.lreturn, 1) := by decide +kernel
set_option maxRecDepth 20000 in
theorem ggX10_most_X8_greatest : GoodIn wsX10_most wsX8_greatest := goodIn_r _ [11, 12, 13, 14, 15, 16, 167, 168, 169, 170] (by decide +kernel) (by decide +kernel)
set_option maxRecDepth 20000 in
theorem gX10_most_X8_greatest : GoodIn wsX10_most (wsV RX10 379 RX8 yX8_greatest wsX8_greatest) := goodIn_app (goodIn_of _ (by decide +kernel)) ggX10_most_X8_greatest
set_option maxRecDepth 20000 in
theorem ggX10_most_X10_oddEdges : GoodIn wsX10_most wsX10_oddEdges := goodIn_r _ [21, 4, 5, 22, 23, 24, 25, 26, 27, 28, 29, 30, 31, 32, 33, 34, 35, 36, 37, 15, 38, 39, 40, 41, 42, 43, 44, 45, 46, 47, 48, 49, 50, 51, 52, 53, 54, 55, 56, 57, 58, 59, 20, 60, 61, 62, 63, 64, 65, 66, 67, 154, 155, 156, 157, 158, 159, 160, 161, 162, 163, 164, 165, 166, 171, 172, 173, 174, 175, 176, 177, 178, 179, 180, 181, 182, 183, 184, 185, 186, 187, 188, 189] (by decide +kernel) (by decide +kernel)
set_option maxRecDepth 20000 in
theorem gX10_most_X10_oddEdges : GoodIn wsX10_most (wsV RX10 203 RX10 yX10_oddEdges wsX10_oddEdges) := goodIn_app (goodIn_of _ (by decide +kernel)) ggX10_most_X10_oddEdges
set_option maxRecDepth 20000 in
theorem ggX10_most_X1_greatestSix : GoodIn wsX10_most wsX1_greatestSix := goodIn_r _ [71, 72, 73, 74, 14, 15, 16, 171, 172, 173, 174, 175, 176] (by decide +kernel) (by decide +kernel)
set_option maxRecDepth 20000 in
theorem gX10_most_X1_greatestSix : GoodIn wsX10_most (wsV RX10 383 RX1 yX1_greatestSix wsX1_greatestSix) := goodIn_app (goodIn_of _ (by decide +kernel)) ggX10_most_X1_greatestSix
set_option maxRecDepth 20000 in
theorem ggX10_most_X10_tetsWithPoints : GoodIn wsX10_most wsX10_tetsWithPoints := goodIn_r _ [78, 4, 5, 79, 24, 80, 81, 82, 83, 84, 85, 37, 15, 38, 86, 87, 88, 89, 90, 91, 92, 14, 16, 93, 56, 57, 58, 94, 95, 96, 97, 98, 99, 100, 101, 102, 103, 104, 105, 106, 107, 108, 109, 110, 111, 112, 113, 114, 115, 116, 154, 155, 156, 157, 158, 159, 160, 161, 162, 163, 164, 165, 166, 171, 172, 173, 174, 175, 176, 190, 191, 192, 193, 194, 195, 196] (by decide +kernel) (by decide +kernel)
set_option maxRecDepth 20000 in
theorem gX10_most_X10_tetsWithPoints : GoodIn wsX10_most (wsV RX10 386 RX10 yX10_tetsWithPoints wsX10_tetsWithPoints) := goodIn_app (goodIn_of _ (by decide +kernel)) ggX10_most_X10_tetsWithPoints
set_option maxRecDepth 20000 in
theorem ggX10_most_X10_solidsWithoutSum : GoodIn wsX10_most wsX10_solidsWithoutSum := goodIn_r _ [120, 1, 121, 122, 123, 10, 124, 12, 125, 126, 127, 128, 129, 154, 155, 156, 157, 158, 159, 160, 161, 162, 163, 164, 165, 166, 167, 168, 169, 170] (by decide +kernel) (by decide +kernel)
set_option maxRecDepth 20000 in
theorem gX10_most_X10_solidsWithoutSum : GoodIn wsX10_most (wsV RX10 389 RX10 yX10_solidsWithoutSum wsX10_solidsWithoutSum) := goodIn_app (goodIn_of _ (by decide +kernel)) ggX10_most_X10_solidsWithoutSum
set_option maxRecDepth 20000 in
theorem ggX10_most_X10_alikeCouples : GoodIn wsX10_most wsX10_alikeCouples := goodIn_r _ [133, 4, 134, 135, 136, 57, 137, 72, 138, 139, 140, 141, 20, 142, 1, 143, 144, 145, 146, 147, 148, 149, 73, 150, 151, 152, 10, 153, 12, 125, 126, 127, 128, 129, 154, 155, 156, 157, 158, 159, 160, 161, 162, 163, 164, 165, 166, 171, 172, 173, 174, 175, 176, 167, 168, 169, 170] (by decide +kernel) (by decide +kernel)
set_option maxRecDepth 20000 in
theorem gX10_most_X10_alikeCouples : GoodIn wsX10_most (wsV RX10 392 RX10 yX10_alikeCouples wsX10_alikeCouples) := goodIn_app (goodIn_of _ (by decide +kernel)) ggX10_most_X10_alikeCouples
theorem dX10_most_0 : decode cX10_most 0 = .ok (.iload_n 1, 1) := by decide +kernel
theorem dX10_most_1 : decode cX10_most 1 = .ok (.tableswitch 113 0 6 #[43, 58, 73, 90, 98, 103, 108], 43) := by decide +kernel
theorem dX10_most_44 : decode cX10_most 44 = .ok (.aload_n 0, 1) := by decide +kernel
theorem dX10_most_45 : decode cX10_most 45 = .ok (.getfield 51, 3) := by decide +kernel
theorem dX10_most_48 : decode cX10_most 48 = .ok (.aload_n 0, 1) := by decide +kernel
theorem dX10_most_49 : decode cX10_most 49 = .ok (.getfield 51, 3) := by decide +kernel
theorem dX10_most_52 : decode cX10_most 52 = .ok (.getfield 213, 3) := by decide +kernel
theorem dX10_most_55 : decode cX10_most 55 = .ok (.invokevirtual 379, 3) := by decide +kernel
theorem dX10_most_58 : decode cX10_most 58 = .ok (.ireturn, 1) := by decide +kernel
theorem dX10_most_59 : decode cX10_most 59 = .ok (.aload_n 0, 1) := by decide +kernel
theorem dX10_most_60 : decode cX10_most 60 = .ok (.getfield 51, 3) := by decide +kernel
theorem dX10_most_63 : decode cX10_most 63 = .ok (.aload_n 0, 1) := by decide +kernel
theorem dX10_most_64 : decode cX10_most 64 = .ok (.getfield 51, 3) := by decide +kernel
theorem dX10_most_67 : decode cX10_most 67 = .ok (.getfield 216, 3) := by decide +kernel
theorem dX10_most_70 : decode cX10_most 70 = .ok (.invokevirtual 379, 3) := by decide +kernel
theorem dX10_most_73 : decode cX10_most 73 = .ok (.ireturn, 1) := by decide +kernel
theorem dX10_most_74 : decode cX10_most 74 = .ok (.aload_n 0, 1) := by decide +kernel
theorem dX10_most_75 : decode cX10_most 75 = .ok (.getfield 28, 3) := by decide +kernel
theorem dX10_most_78 : decode cX10_most 78 = .ok (.getfield 108, 3) := by decide +kernel
theorem dX10_most_81 : decode cX10_most 81 = .ok (.bipush 6, 2) := by decide +kernel
theorem dX10_most_83 : decode cX10_most 83 = .ok (.imul, 1) := by decide +kernel
theorem dX10_most_84 : decode cX10_most 84 = .ok (.aload_n 0, 1) := by decide +kernel
theorem dX10_most_85 : decode cX10_most 85 = .ok (.iconst (-1), 1) := by decide +kernel
theorem dX10_most_86 : decode cX10_most 86 = .ok (.invokevirtual 203, 3) := by decide +kernel
theorem dX10_most_89 : decode cX10_most 89 = .ok (.isub, 1) := by decide +kernel
theorem dX10_most_90 : decode cX10_most 90 = .ok (.ireturn, 1) := by decide +kernel
theorem dX10_most_91 : decode cX10_most 91 = .ok (.aload_n 0, 1) := by decide +kernel
theorem dX10_most_92 : decode cX10_most 92 = .ok (.getfield 28, 3) := by decide +kernel
theorem dX10_most_95 : decode cX10_most 95 = .ok (.invokevirtual 383, 3) := by decide +kernel
theorem dX10_most_98 : decode cX10_most 98 = .ok (.ireturn, 1) := by decide +kernel
theorem dX10_most_99 : decode cX10_most 99 = .ok (.aload_n 0, 1) := by decide +kernel
theorem dX10_most_100 : decode cX10_most 100 = .ok (.invokevirtual 386, 3) := by decide +kernel
theorem dX10_most_103 : decode cX10_most 103 = .ok (.ireturn, 1) := by decide +kernel
theorem dX10_most_104 : decode cX10_most 104 = .ok (.aload_n 0, 1) := by decide +kernel
theorem dX10_most_105 : decode cX10_most 105 = .ok (.invokevirtual 389, 3) := by decide +kernel
theorem dX10_most_108 : decode cX10_most 108 = .ok (.ireturn, 1) := by decide +kernel
theorem dX10_most_109 : decode cX10_most 109 = .ok (.aload_n 0, 1) := by decide +kernel
theorem dX10_most_110 : decode cX10_most 110 = .ok (.invokevirtual 392, 3) := by decide +kernel
theorem dX10_most_113 : decode cX10_most 113 = .ok (.ireturn, 1) := by decide +kernel
theorem dX10_most_114 : decode cX10_most 114 = .ok (.ldc 140, 2) := by decide +kernel
theorem dX10_most_116 : decode cX10_most 116 = .ok (.ireturn, 1) := by decide +kernel
set_option maxRecDepth 20000 in
theorem ggX10_forgetPicks_X8_clear : GoodIn wsX10_forgetPicks wsX8_clear := goodIn_r _ [7, 8, 22, 23, 24, 25] (by decide +kernel) (by decide +kernel)
set_option maxRecDepth 20000 in
theorem gX10_forgetPicks_X8_clear : GoodIn wsX10_forgetPicks (wsV RX10 111 RX8 yX8_clear wsX8_clear) := goodIn_app (goodIn_of _ (by decide +kernel)) ggX10_forgetPicks_X8_clear
theorem dX10_forgetPicks_0 : decode cX10_forgetPicks 0 = .ok (.aload_n 0, 1) := by decide +kernel
theorem dX10_forgetPicks_1 : decode cX10_forgetPicks 1 = .ok (.iconst 0, 1) := by decide +kernel
theorem dX10_forgetPicks_2 : decode cX10_forgetPicks 2 = .ok (.putfield 134, 3) := by decide +kernel
theorem dX10_forgetPicks_5 : decode cX10_forgetPicks 5 = .ok (.aload_n 0, 1) := by decide +kernel
theorem dX10_forgetPicks_6 : decode cX10_forgetPicks 6 = .ok (.getfield 55, 3) := by decide +kernel
theorem dX10_forgetPicks_9 : decode cX10_forgetPicks 9 = .ok (.invokevirtual 111, 3) := by decide +kernel
theorem dX10_forgetPicks_12 : decode cX10_forgetPicks 12 = .ok (.return_, 1) := by decide +kernel
theorem dX10_oddEdges_0 : decode cX10_oddEdges 0 = .ok (.iconst 0, 1) := by decide +kernel
theorem dX10_oddEdges_1 : decode cX10_oddEdges 1 = .ok (.istore_n 2, 1) := by decide +kernel
theorem dX10_oddEdges_2 : decode cX10_oddEdges 2 = .ok (.iconst 0, 1) := by decide +kernel
theorem dX10_oddEdges_3 : decode cX10_oddEdges 3 = .ok (.istore_n 3, 1) := by decide +kernel
theorem dX10_oddEdges_4 : decode cX10_oddEdges 4 = .ok (.iload_n 3, 1) := by decide +kernel
theorem dX10_oddEdges_5 : decode cX10_oddEdges 5 = .ok (.aload_n 0, 1) := by decide +kernel
theorem dX10_oddEdges_6 : decode cX10_oddEdges 6 = .ok (.getfield 28, 3) := by decide +kernel
theorem dX10_oddEdges_9 : decode cX10_oddEdges 9 = .ok (.getfield 108, 3) := by decide +kernel
theorem dX10_oddEdges_12 : decode cX10_oddEdges 12 = .ok (.if_icmp .ge 82, 3) := by decide +kernel
theorem dX10_oddEdges_94 : decode cX10_oddEdges 94 = .ok (.iload_n 2, 1) := by decide +kernel
theorem dX10_oddEdges_95 : decode cX10_oddEdges 95 = .ok (.ireturn, 1) := by decide +kernel
set_option maxRecDepth 20000 in
theorem ggX10_hangPicks_X3_begin : GoodIn wsX10_hangPicks wsX3_begin := goodIn_r _ [8, 9, 10, 11, 64, 65, 66, 67, 68, 69, 70] (by decide +kernel) (by decide +kernel)
set_option maxRecDepth 20000 in
theorem gX10_hangPicks_X3_begin : GoodIn wsX10_hangPicks (wsV RX10 395 RX3 yX3_begin wsX3_begin) := goodIn_app (goodIn_of _ (by decide +kernel)) ggX10_hangPicks_X3_begin
theorem dX10_hangPicks_0 : decode cX10_hangPicks 0 = .ok (.aload_n 0, 1) := by decide +kernel
theorem dX10_hangPicks_1 : decode cX10_hangPicks 1 = .ok (.getfield 61, 3) := by decide +kernel
theorem dX10_hangPicks_4 : decode cX10_hangPicks 4 = .ok (.invokevirtual 395, 3) := by decide +kernel
theorem dX10_hangPicks_7 : decode cX10_hangPicks 7 = .ok (.iconst 0, 1) := by decide +kernel
theorem dX10_hangPicks_8 : decode cX10_hangPicks 8 = .ok (.istore_n 1, 1) := by decide +kernel
theorem dX10_hangPicks_9 : decode cX10_hangPicks 9 = .ok (.iload_n 1, 1) := by decide +kernel
theorem dX10_hangPicks_10 : decode cX10_hangPicks 10 = .ok (.aload_n 0, 1) := by decide +kernel
theorem dX10_hangPicks_11 : decode cX10_hangPicks 11 = .ok (.getfield 134, 3) := by decide +kernel
theorem dX10_hangPicks_14 : decode cX10_hangPicks 14 = .ok (.if_icmp .ge 21, 3) := by decide +kernel
theorem dX10_hangPicks_35 : decode cX10_hangPicks 35 = .ok (.return_, 1) := by decide +kernel
theorem dX10_tetsWithPoints_0 : decode cX10_tetsWithPoints 0 = .ok (.iconst 0, 1) := by decide +kernel
theorem dX10_tetsWithPoints_1 : decode cX10_tetsWithPoints 1 = .ok (.istore_n 1, 1) := by decide +kernel
theorem dX10_tetsWithPoints_2 : decode cX10_tetsWithPoints 2 = .ok (.iconst 0, 1) := by decide +kernel
theorem dX10_tetsWithPoints_3 : decode cX10_tetsWithPoints 3 = .ok (.istore_n 2, 1) := by decide +kernel
theorem dX10_tetsWithPoints_4 : decode cX10_tetsWithPoints 4 = .ok (.iload_n 2, 1) := by decide +kernel
theorem dX10_tetsWithPoints_5 : decode cX10_tetsWithPoints 5 = .ok (.aload_n 0, 1) := by decide +kernel
theorem dX10_tetsWithPoints_6 : decode cX10_tetsWithPoints 6 = .ok (.getfield 28, 3) := by decide +kernel
theorem dX10_tetsWithPoints_9 : decode cX10_tetsWithPoints 9 = .ok (.getfield 108, 3) := by decide +kernel
theorem dX10_tetsWithPoints_12 : decode cX10_tetsWithPoints 12 = .ok (.if_icmp .ge 46, 3) := by decide +kernel
theorem dX10_tetsWithPoints_58 : decode cX10_tetsWithPoints 58 = .ok (.iload_n 1, 1) := by decide +kernel
theorem dX10_tetsWithPoints_59 : decode cX10_tetsWithPoints 59 = .ok (.ireturn, 1) := by decide +kernel
set_option maxRecDepth 20000 in
theorem ggX10_solidsWithoutSum_X8_rowOfTerm : GoodIn wsX10_solidsWithoutSum wsX8_rowOfTerm := goodIn_r _ [6, 7, 8, 9, 10, 5, 11, 12, 26, 27, 28, 29] (by decide +kernel) (by decide +kernel)
set_option maxRecDepth 20000 in
theorem gX10_solidsWithoutSum_X8_rowOfTerm : GoodIn wsX10_solidsWithoutSum (wsV RX10 209 RX8 yX8_rowOfTerm wsX8_rowOfTerm) := goodIn_app (goodIn_of _ (by decide +kernel)) ggX10_solidsWithoutSum_X8_rowOfTerm
theorem dX10_solidsWithoutSum_0 : decode cX10_solidsWithoutSum 0 = .ok (.iconst 0, 1) := by decide +kernel
theorem dX10_solidsWithoutSum_1 : decode cX10_solidsWithoutSum 1 = .ok (.istore_n 1, 1) := by decide +kernel
theorem dX10_solidsWithoutSum_2 : decode cX10_solidsWithoutSum 2 = .ok (.iconst 0, 1) := by decide +kernel
theorem dX10_solidsWithoutSum_3 : decode cX10_solidsWithoutSum 3 = .ok (.istore_n 2, 1) := by decide +kernel
theorem dX10_solidsWithoutSum_4 : decode cX10_solidsWithoutSum 4 = .ok (.iload_n 2, 1) := by decide +kernel
theorem dX10_solidsWithoutSum_5 : decode cX10_solidsWithoutSum 5 = .ok (.iconst 4, 1) := by decide +kernel
theorem dX10_solidsWithoutSum_6 : decode cX10_solidsWithoutSum 6 = .ok (.if_icmp .ge 31, 3) := by decide +kernel
theorem dX10_solidsWithoutSum_9 : decode cX10_solidsWithoutSum 9 = .ok (.iload_n 1, 1) := by decide +kernel
theorem dX10_solidsWithoutSum_10 : decode cX10_solidsWithoutSum 10 = .ok (.aload_n 0, 1) := by decide +kernel
theorem dX10_solidsWithoutSum_11 : decode cX10_solidsWithoutSum 11 = .ok (.getfield 51, 3) := by decide +kernel
theorem dX10_solidsWithoutSum_14 : decode cX10_solidsWithoutSum 14 = .ok (.iload_n 2, 1) := by decide +kernel
theorem dX10_solidsWithoutSum_15 : decode cX10_solidsWithoutSum 15 = .ok (.iconst 0, 1) := by decide +kernel
theorem dX10_solidsWithoutSum_16 : decode cX10_solidsWithoutSum 16 = .ok (.invokevirtual 209, 3) := by decide +kernel
theorem dX10_solidsWithoutSum_19 : decode cX10_solidsWithoutSum 19 = .ok (.ifCond .ge 9, 3) := by decide +kernel
theorem dX10_solidsWithoutSum_22 : decode cX10_solidsWithoutSum 22 = .ok (.iconst 1, 1) := by decide +kernel
theorem dX10_solidsWithoutSum_23 : decode cX10_solidsWithoutSum 23 = .ok (.iload_n 2, 1) := by decide +kernel
theorem dX10_solidsWithoutSum_24 : decode cX10_solidsWithoutSum 24 = .ok (.ishl, 1) := by decide +kernel
theorem dX10_solidsWithoutSum_25 : decode cX10_solidsWithoutSum 25 = .ok (.goto 4, 3) := by decide +kernel
theorem dX10_solidsWithoutSum_29 : decode cX10_solidsWithoutSum 29 = .ok (.ior, 1) := by decide +kernel
theorem dX10_solidsWithoutSum_30 : decode cX10_solidsWithoutSum 30 = .ok (.istore_n 1, 1) := by decide +kernel
theorem dX10_solidsWithoutSum_31 : decode cX10_solidsWithoutSum 31 = .ok (.iinc 2 1, 3) := by decide +kernel
theorem dX10_solidsWithoutSum_34 : decode cX10_solidsWithoutSum 34 = .ok (.goto (-30), 3) := by decide +kernel
theorem dX10_solidsWithoutSum_37 : decode cX10_solidsWithoutSum 37 = .ok (.iload_n 1, 1) := by decide +kernel
theorem dX10_solidsWithoutSum_38 : decode cX10_solidsWithoutSum 38 = .ok (.ireturn, 1) := by decide +kernel
set_option maxRecDepth 20000 in
theorem ggX10_alikeCouples_X1_tetsOfSolid : GoodIn wsX10_alikeCouples wsX1_tetsOfSolid := goodIn_r _ [6, 7, 8, 47, 48, 49, 50, 51, 52] (by decide +kernel) (by decide +kernel)
set_option maxRecDepth 20000 in
theorem gX10_alikeCouples_X1_tetsOfSolid : GoodIn wsX10_alikeCouples (wsV RX10 200 RX1 yX1_tetsOfSolid wsX1_tetsOfSolid) := goodIn_app (goodIn_of _ (by decide +kernel)) ggX10_alikeCouples_X1_tetsOfSolid
theorem dX10_alikeCouples_0 : decode cX10_alikeCouples 0 = .ok (.iconst 0, 1) := by decide +kernel
theorem dX10_alikeCouples_1 : decode cX10_alikeCouples 1 = .ok (.istore_n 1, 1) := by decide +kernel
theorem dX10_alikeCouples_2 : decode cX10_alikeCouples 2 = .ok (.iconst 0, 1) := by decide +kernel
theorem dX10_alikeCouples_3 : decode cX10_alikeCouples 3 = .ok (.istore_n 2, 1) := by decide +kernel
theorem dX10_alikeCouples_4 : decode cX10_alikeCouples 4 = .ok (.iload_n 2, 1) := by decide +kernel
theorem dX10_alikeCouples_5 : decode cX10_alikeCouples 5 = .ok (.iconst 4, 1) := by decide +kernel
theorem dX10_alikeCouples_6 : decode cX10_alikeCouples 6 = .ok (.if_icmp .ge 75, 3) := by decide +kernel
theorem dX10_alikeCouples_9 : decode cX10_alikeCouples 9 = .ok (.iload_n 2, 1) := by decide +kernel
theorem dX10_alikeCouples_10 : decode cX10_alikeCouples 10 = .ok (.iconst 1, 1) := by decide +kernel
theorem dX10_alikeCouples_11 : decode cX10_alikeCouples 11 = .ok (.iadd, 1) := by decide +kernel
theorem dX10_alikeCouples_12 : decode cX10_alikeCouples 12 = .ok (.istore_n 3, 1) := by decide +kernel
theorem dX10_alikeCouples_13 : decode cX10_alikeCouples 13 = .ok (.iload_n 3, 1) := by decide +kernel
theorem dX10_alikeCouples_14 : decode cX10_alikeCouples 14 = .ok (.iconst 4, 1) := by decide +kernel
theorem dX10_alikeCouples_15 : decode cX10_alikeCouples 15 = .ok (.if_icmp .ge 60, 3) := by decide +kernel
theorem dX10_alikeCouples_18 : decode cX10_alikeCouples 18 = .ok (.aload_n 0, 1) := by decide +kernel
theorem dX10_alikeCouples_19 : decode cX10_alikeCouples 19 = .ok (.getfield 28, 3) := by decide +kernel
theorem dX10_alikeCouples_22 : decode cX10_alikeCouples 22 = .ok (.iload_n 2, 1) := by decide +kernel
theorem dX10_alikeCouples_23 : decode cX10_alikeCouples 23 = .ok (.invokevirtual 200, 3) := by decide +kernel
theorem dX10_alikeCouples_26 : decode cX10_alikeCouples 26 = .ok (.ifCond .le 18, 3) := by decide +kernel
theorem dX10_alikeCouples_44 : decode cX10_alikeCouples 44 = .ok (.iconst 0, 1) := by decide +kernel
theorem dX10_alikeCouples_45 : decode cX10_alikeCouples 45 = .ok (.istore 4, 2) := by decide +kernel
theorem dX10_alikeCouples_47 : decode cX10_alikeCouples 47 = .ok (.iload_n 1, 1) := by decide +kernel
theorem dX10_alikeCouples_48 : decode cX10_alikeCouples 48 = .ok (.iload 4, 2) := by decide +kernel
theorem dX10_alikeCouples_50 : decode cX10_alikeCouples 50 = .ok (.ifCond .eq 16, 3) := by decide +kernel
theorem dX10_alikeCouples_66 : decode cX10_alikeCouples 66 = .ok (.iconst 0, 1) := by decide +kernel
theorem dX10_alikeCouples_67 : decode cX10_alikeCouples 67 = .ok (.iadd, 1) := by decide +kernel
theorem dX10_alikeCouples_68 : decode cX10_alikeCouples 68 = .ok (.istore_n 1, 1) := by decide +kernel
theorem dX10_alikeCouples_69 : decode cX10_alikeCouples 69 = .ok (.iinc 3 1, 3) := by decide +kernel
theorem dX10_alikeCouples_72 : decode cX10_alikeCouples 72 = .ok (.goto (-59), 3) := by decide +kernel
theorem dX10_alikeCouples_75 : decode cX10_alikeCouples 75 = .ok (.iinc 2 1, 3) := by decide +kernel
theorem dX10_alikeCouples_78 : decode cX10_alikeCouples 78 = .ok (.goto (-74), 3) := by decide +kernel
theorem dX10_alikeCouples_81 : decode cX10_alikeCouples 81 = .ok (.iload_n 1, 1) := by decide +kernel
theorem dX10_alikeCouples_82 : decode cX10_alikeCouples 82 = .ok (.ireturn, 1) := by decide +kernel
set_option maxHeartbeats 4000000 in
set_option maxRecDepth 100000 in
theorem c_X10_term (l : Launch) (dC : Nat → ClassId) (dI : Nat → Nat → Nat) (cB cI cJ : ClassId) (sz : Nat) (x0 xTape xReader xBag xBld xAng xSum xPik xHan xIns xShr xSta xTur sM sP sA : Nat) (p0 p1 p2 : Int32) : Met l yX10_term wsX10_term ({ frames := 2, cells := 0, slots := 0, locals := 48 }) (va_Pc [.ref x0, .int p0, .int p1, .int p2] (fun U => U.heap.size = sz ∧ va_P (dC, dI) vwCl [(x0, .inr (10, [.ref xTape, .ref xReader, .ref xBag, .ref xBld, .ref xAng, .ref xSum, .ref xPik, .int 0, .ref xHan, .ref xIns, .ref xShr, .ref xSta, .ref xTur])), (xSum, .inr (8, [.ref sM, .ref sP, .ref sA, .int 0]))] U.heap ∧ va_K (dC, dI) vwCl [(cB, .byte), (cI, .int), (cJ, .long)] U ∧ va_D (fun _ => True) [(x0, .inr (10, [.ref xTape, .ref xReader, .ref xBag, .ref xBld, .ref xAng, .ref xSum, .ref xPik, .int 0, .ref xHan, .ref xIns, .ref xShr, .ref xSta, .ref xTur])), (xSum, .inr (8, [.ref sM, .ref sP, .ref sA, .int 0]))])) (va_Qi (fun (r : Int32) (_ : Unit) => r = (-1000000)) (fun _ _ => True) (va_A [(x0, .inr (10, [.ref xTape, .ref xReader, .ref xBag, .ref xBld, .ref xAng, .ref xSum, .ref xPik, .int 0, .ref xHan, .ref xIns, .ref xShr, .ref xSta, .ref xTur])), (xSum, .inr (8, [.ref sM, .ref sP, .ref sA, .int 0]))] sz)) 0 0 (va_A [(x0, .inr (10, [.ref xTape, .ref xReader, .ref xBag, .ref xBld, .ref xAng, .ref xSum, .ref xPik, .int 0, .ref xHan, .ref xIns, .ref xShr, .ref xSta, .ref xTur])), (xSum, .inr (8, [.ref sM, .ref sP, .ref sA, .int 0]))] sz) := by
  refine Met.ofW (cc := cX10_term) (maxL := 5) (ret := (some .int)) (by decide) rfl ?_
  intro p e s m args below meth c s₁ B hml hv
  obtain ⟨rfl, hsz, hP, hK, hD0⟩ := hv
  have hx := B.exec
  have hb := B.bytes
  have hr := B.returns
  have hts := atoms_spec (ws := wsX10_term) B.pre
  have hown : s.vm.findClass RX10 = some m.cls := findClass_of_methodNamed B.named
  have hlocks := B.notSynchronized
  have hiX10 : ∀ w ∈ u_ws RX10 TX10 13, w ∈ wsX10_term := by decide +kernel
  subst hsz
  have hD := hD0.self (sz := s.heap.size)
  generalize hAe : va_A [(x0, .inr (10, [.ref xTape, .ref xReader, .ref xBag, .ref xBld, .ref xAng, .ref xSum, .ref xPik, .int 0, .ref xHan, .ref xIns, .ref xShr, .ref xSta, .ref xTur])), (xSum, .inr (8, [.ref sM, .ref sP, .ref sA, .int 0]))] s.heap.size = A at hD ⊢
  have hA : ∀ q : Nat, s.heap.size ≤ q → A q := fun q h => by rw [← hAe]; exact Or.inr h
  have hS : va_S A s.heap s.heap [] := va_S.rf
  have hP : va_P (dC, dI) vwCl [(x0, .inr (10, [.ref xTape, .ref xReader, .ref xBag, .ref xBld, .ref xAng, .ref xSum, .ref xPik, .int 0, .ref xHan, .ref xIns, .ref xShr, .ref xSta, .ref xTur])), (xSum, .inr (8, [.ref sM, .ref sP, .ref sA, .int 0]))] s.heap := hP
  have hl := lv_entry ([.ref x0, .int p0, .int p1, .int p2]) (n := 5) (Nat.le_of_ble_eq_true rfl)
  rw [lg_entry_eq]
  generalize (lg_sl ([.ref x0, .int p0, .int p1, .int p2]) ++ List.replicate (5 - (lg_sl ([.ref x0, .int p0, .int p1, .int p2])).length) Slot.unset).toArray = ls at hl ⊢
  have hl : lv_has ls 5 [(0, .ref x0), (1, .int p0), (2, .int p1), (3, .int p2)] := hl
  refine lv_iload_n hx hb dX10_term_0 rfl (lv_at hl 1 rfl) ?_
  have hPc := hP.sub (ws' := []) [] rfl
  have hDc := hD.sub (ws' := []) [] (by decide) rfl
  have hFc := va_free (wc := []) hD hS hA [] rfl
  refine va_calli (va_runS (As := [.int p0]) (rest := []) ⟨hx, hb, hml, hown, hts⟩ (c_X10_isSolid l dC dI cB cI cJ s.heap.size p0) (va_cwS 1 hts gX10_term_X10_isSolid rfl rfl rfl (by decide +kernel) ⟨Nat.le_of_ble_eq_true rfl, Nat.le_of_ble_eq_true rfl⟩) ⟨fun a U g mk q => by obtain ⟨q0, q1, qP, qK, qD⟩ := q; exact ⟨q0, q1, qP, va_K.moved (u := U) (U := U.calling g mk a) (Vm.Alike.refl U.vm) qK, qD⟩, fun U hU hW => ⟨rfl, by rw [hU], by rw [hU]; exact hPc, va_K.moved hW.alike hK, hDc.weaken (fun _ _ _ _ => trivial)⟩⟩ rfl rfl hl.1 rfl (lv_room (Nat.le_of_ble_eq_true rfl)) dX10_term_1 ⟨Nat.le_of_ble_eq_true rfl, Nat.le_of_ble_eq_true rfl⟩) hS (fun q _ h => hFc q h) hFc (fun r_1 u t H1 locs ht hvm hw hB hz1 hk1 hS => ?_)
  have hP1 : va_P (dC, dI) vwCl [] H1 := fun k q h => by simp at h
  have hD1 : va_D (va_A [] s.heap.size) [] := ⟨fun i j p q h => by simp at h, fun k q h => by simp at h⟩
  obtain ⟨hP, hD⟩ := va_join (wr := [(x0, .inr (10, [.ref xTape, .ref xReader, .ref xBag, .ref xBld, .ref xAng, .ref xSum, .ref xPik, .int 0, .ref xHan, .ref xIns, .ref xShr, .ref xSta, .ref xTur])), (xSum, .inr (8, [.ref sM, .ref sP, .ref sA, .int 0]))]) (w1 := []) hP hD [] [0, 1] rfl rfl (by decide) (by decide) hk1 hFc hP1 hD1
  generalize H1 = H at hP hS ⊢
  have hP : va_P (dC, dI) vwCl [(x0, .inr (10, [.ref xTape, .ref xReader, .ref xBag, .ref xBld, .ref xAng, .ref xSum, .ref xPik, .int 0, .ref xHan, .ref xIns, .ref xShr, .ref xSta, .ref xTur])), (xSum, .inr (8, [.ref sM, .ref sP, .ref sA, .int 0]))] H := hP
  have hD : va_D A [(x0, .inr (10, [.ref xTape, .ref xReader, .ref xBag, .ref xBld, .ref xAng, .ref xSum, .ref xPik, .int 0, .ref xHan, .ref xIns, .ref xShr, .ref xSta, .ref xTur])), (xSum, .inr (8, [.ref sM, .ref sP, .ref sA, .int 0]))] := hD
  rcases hw with ⟨rfl, k_2⟩ | ⟨rfl, k_2⟩
  · refine lv_if_ne (tgt := 10) hx hb dX10_term_4 (by decide) (fun c => absurd (by decide) c) (fun _ => ?_)
    refine lv_ldc (v := (-1000000)) hx hb hown (hts (.constant RX10 140 (-1000000)) (by decide +kernel)) dX10_term_7 ?_
    refine W.widen (k := 0) (n := 0) (Nat.le_of_ble_eq_true rfl) (Nat.le_of_ble_eq_true rfl) ?_
    exact W.iret (v := (-1000000)) hx hb hr (fun t ht hW => ⟨⟨(-1000000), (), rfl, rfl, trivial⟩, hS.F ht⟩) hS.2.2 dX10_term_9
  · refine lv_if_ne (tgt := 10) hx hb dX10_term_4 (by decide) (fun _ => ?_) (fun c => absurd c (by decide))
    refine lv_aload_n hx hb dX10_term_10 rfl (lv_at hl 0 rfl) ?_
    refine va_get (D := (dC, dI)) (ci := 10) (v := .ref xSum) (C := RX10) (T := TX10) (N := 13) hx hb hts hiX10 hown hK hP 0 rfl rfl 5 (by decide) (hts (.fieldLink RX10 51 "ScissorsTable" "sums" "LScissorsTable$Sums;") (by decide +kernel)) (fun _ h9 => h9) rfl dX10_term_11 ?_
    refine lv_iload_n hx hb dX10_term_14 rfl (lv_at hl 1 rfl) ?_
    refine lv_iload_n hx hb dX10_term_15 rfl (lv_at hl 2 rfl) ?_
    have hPc := hP.sub (ws' := [(xSum, .inr (8, [.ref sM, .ref sP, .ref sA, .int 0]))]) [1] rfl
    have hDc := hD.sub (ws' := [(xSum, .inr (8, [.ref sM, .ref sP, .ref sA, .int 0]))]) [1] (by decide) rfl
    have hFc := va_free (wc := [(xSum, .inr (8, [.ref sM, .ref sP, .ref sA, .int 0]))]) hD hS hA [1] rfl
    refine va_calli (va_runV (As := [.int p0, .int p1]) (rest := []) ⟨hx, hb, hml, hown, hts⟩ (c_X8_rowOfTerm l dC dI cB cI cJ H.size xSum sM sP sA p0 p1) (cwV 2 hts gX10_term_X8_rowOfTerm rfl rfl rfl (by decide +kernel) ⟨Nat.le_of_ble_eq_true rfl, Nat.le_of_ble_eq_true rfl⟩) ⟨fun a U g mk q => by obtain ⟨q0, q1, qP, qK, qD⟩ := q; exact ⟨q0, q1, qP, va_K.moved (u := U) (U := U.calling g mk a) (Vm.Alike.refl U.vm) qK, qD⟩, va_recv hK hP (ci := 8) (q0 := 1) rfl rfl, fun U hU hW => ⟨rfl, by rw [hU], by rw [hU]; exact hPc, va_K.moved hW.alike hK, hDc.weaken (fun _ _ _ _ => trivial)⟩⟩ rfl rfl hl.1 rfl (lv_room (Nat.le_of_ble_eq_true rfl)) dX10_term_16 ⟨Nat.le_of_ble_eq_true rfl, Nat.le_of_ble_eq_true rfl⟩) hS (fun q _ h => hFc q h) hFc (fun r_3 u t H1 locs ht hvm hw hB hz1 hk1 hS => ?_)
    obtain ⟨hP1, hK1, hD1⟩ := hB
    rw [ht] at hP1
    obtain ⟨hP, hD⟩ := va_join (wr := [(x0, .inr (10, [.ref xTape, .ref xReader, .ref xBag, .ref xBld, .ref xAng, .ref xSum, .ref xPik, .int 0, .ref xHan, .ref xIns, .ref xShr, .ref xSta, .ref xTur]))]) (w1 := [(xSum, .inr (8, [.ref sM, .ref sP, .ref sA, .int 0]))]) hP hD [1] [0] rfl rfl (by decide) (by decide) hk1 hFc hP1 hD1
    generalize H1 = H at hP hS ⊢
    have hP : va_P (dC, dI) vwCl [(x0, .inr (10, [.ref xTape, .ref xReader, .ref xBag, .ref xBld, .ref xAng, .ref xSum, .ref xPik, .int 0, .ref xHan, .ref xIns, .ref xShr, .ref xSta, .ref xTur])), (xSum, .inr (8, [.ref sM, .ref sP, .ref sA, .int 0]))] H := hP
    have hD : va_D A [(x0, .inr (10, [.ref xTape, .ref xReader, .ref xBag, .ref xBld, .ref xAng, .ref xSum, .ref xPik, .int 0, .ref xHan, .ref xIns, .ref xShr, .ref xSta, .ref xTur])), (xSum, .inr (8, [.ref sM, .ref sP, .ref sA, .int 0]))] := hD
    have hr_3 := hw
    obtain rfl : r_3 = (-1) := hr_3
    refine lv_istore (lv' := [(4, .int (-1)), (0, .ref x0), (1, .int p0), (2, .int p1), (3, .int p2)]) hx hb dX10_term_19 hl (by decide) rfl (fun ls hl => ?_)
    refine lv_iload hx hb dX10_term_21 (lv_at hl 0 rfl) ?_
    refine lv_if_ge (tgt := 29) hx hb dX10_term_23 (by decide) (fun c => absurd c (by decide)) (fun _ => ?_)
    refine lv_ldc (v := (-1000000)) hx hb hown (hts (.constant RX10 140 (-1000000)) (by decide +kernel)) dX10_term_26 ?_
    refine W.widen (k := 0) (n := 0) (Nat.le_of_ble_eq_true rfl) (Nat.le_of_ble_eq_true rfl) ?_
    exact W.iret (v := (-1000000)) hx hb hr (fun t ht hW => ⟨⟨(-1000000), (), rfl, rfl, trivial⟩, hS.F ht⟩) hS.2.2 dX10_term_28
set_option maxHeartbeats 4000000 in
set_option maxRecDepth 100000 in
theorem c_X10_much (l : Launch) (dC : Nat → ClassId) (dI : Nat → Nat → Nat) (cB cI cJ : ClassId) (sz : Nat) (x0 xTape xReader xBag xBld xAng xSum xPik xHan xIns xShr xSta xTur sM sP sA : Nat) (p0 p1 p2 : Int32) : Met l yX10_much wsX10_much ({ frames := 2, cells := 0, slots := 0, locals := 50 }) (va_Pc [.ref x0, .int p0, .int p1, .int p2] (fun U => U.heap.size = sz ∧ va_P (dC, dI) vwCl [(x0, .inr (10, [.ref xTape, .ref xReader, .ref xBag, .ref xBld, .ref xAng, .ref xSum, .ref xPik, .int 0, .ref xHan, .ref xIns, .ref xShr, .ref xSta, .ref xTur])), (xSum, .inr (8, [.ref sM, .ref sP, .ref sA, .int 0]))] U.heap ∧ va_K (dC, dI) vwCl [(cB, .byte), (cI, .int), (cJ, .long)] U ∧ va_D (fun _ => True) [(x0, .inr (10, [.ref xTape, .ref xReader, .ref xBag, .ref xBld, .ref xAng, .ref xSum, .ref xPik, .int 0, .ref xHan, .ref xIns, .ref xShr, .ref xSta, .ref xTur])), (xSum, .inr (8, [.ref sM, .ref sP, .ref sA, .int 0]))])) (va_Qi (fun (r : Int32) (_ : Unit) => r = sp_v1 p0 0 (-1000000)) (fun _ _ => True) (va_A [(x0, .inr (10, [.ref xTape, .ref xReader, .ref xBag, .ref xBld, .ref xAng, .ref xSum, .ref xPik, .int 0, .ref xHan, .ref xIns, .ref xShr, .ref xSta, .ref xTur])), (xSum, .inr (8, [.ref sM, .ref sP, .ref sA, .int 0]))] sz)) 0 0 (va_A [(x0, .inr (10, [.ref xTape, .ref xReader, .ref xBag, .ref xBld, .ref xAng, .ref xSum, .ref xPik, .int 0, .ref xHan, .ref xIns, .ref xShr, .ref xSta, .ref xTur])), (xSum, .inr (8, [.ref sM, .ref sP, .ref sA, .int 0]))] sz) := by
  refine Met.ofW (cc := cX10_much) (maxL := 5) (ret := (some .int)) (by decide) rfl ?_
  intro p e s m args below meth c s₁ B hml hv
  obtain ⟨rfl, hsz, hP, hK, hD0⟩ := hv
  have hx := B.exec
  have hb := B.bytes
  have hr := B.returns
  have hts := atoms_spec (ws := wsX10_much) B.pre
  have hown : s.vm.findClass RX10 = some m.cls := findClass_of_methodNamed B.named
  have hlocks := B.notSynchronized
  have hiX10 : ∀ w ∈ u_ws RX10 TX10 13, w ∈ wsX10_much := by decide +kernel
  subst hsz
  have hD := hD0.self (sz := s.heap.size)
  generalize hAe : va_A [(x0, .inr (10, [.ref xTape, .ref xReader, .ref xBag, .ref xBld, .ref xAng, .ref xSum, .ref xPik, .int 0, .ref xHan, .ref xIns, .ref xShr, .ref xSta, .ref xTur])), (xSum, .inr (8, [.ref sM, .ref sP, .ref sA, .int 0]))] s.heap.size = A at hD ⊢
  have hA : ∀ q : Nat, s.heap.size ≤ q → A q := fun q h => by rw [← hAe]; exact Or.inr h
  have hS : va_S A s.heap s.heap [] := va_S.rf
  have hP : va_P (dC, dI) vwCl [(x0, .inr (10, [.ref xTape, .ref xReader, .ref xBag, .ref xBld, .ref xAng, .ref xSum, .ref xPik, .int 0, .ref xHan, .ref xIns, .ref xShr, .ref xSta, .ref xTur])), (xSum, .inr (8, [.ref sM, .ref sP, .ref sA, .int 0]))] s.heap := hP
  have hl := lv_entry ([.ref x0, .int p0, .int p1, .int p2]) (n := 5) (Nat.le_of_ble_eq_true rfl)
  rw [lg_entry_eq]
  generalize (lg_sl ([.ref x0, .int p0, .int p1, .int p2]) ++ List.replicate (5 - (lg_sl ([.ref x0, .int p0, .int p1, .int p2])).length) Slot.unset).toArray = ls at hl ⊢
  have hl : lv_has ls 5 [(0, .ref x0), (1, .int p0), (2, .int p1), (3, .int p2)] := hl
  refine lv_iload_n hx hb dX10_much_0 rfl (lv_at hl 1 rfl) ?_
  have hPc := hP.sub (ws' := []) [] rfl
  have hDc := hD.sub (ws' := []) [] (by decide) rfl
  have hFc := va_free (wc := []) hD hS hA [] rfl
  refine va_calli (va_runS (As := [.int p0]) (rest := []) ⟨hx, hb, hml, hown, hts⟩ (c_X10_isSolid l dC dI cB cI cJ s.heap.size p0) (va_cwS 1 hts gX10_much_X10_isSolid rfl rfl rfl (by decide +kernel) ⟨Nat.le_of_ble_eq_true rfl, Nat.le_of_ble_eq_true rfl⟩) ⟨fun a U g mk q => by obtain ⟨q0, q1, qP, qK, qD⟩ := q; exact ⟨q0, q1, qP, va_K.moved (u := U) (U := U.calling g mk a) (Vm.Alike.refl U.vm) qK, qD⟩, fun U hU hW => ⟨rfl, by rw [hU], by rw [hU]; exact hPc, va_K.moved hW.alike hK, hDc.weaken (fun _ _ _ _ => trivial)⟩⟩ rfl rfl hl.1 rfl (lv_room (Nat.le_of_ble_eq_true rfl)) dX10_much_1 ⟨Nat.le_of_ble_eq_true rfl, Nat.le_of_ble_eq_true rfl⟩) hS (fun q _ h => hFc q h) hFc (fun r_1 u t H1 locs ht hvm hw hB hz1 hk1 hS => ?_)
  have hP1 : va_P (dC, dI) vwCl [] H1 := fun k q h => by simp at h
  have hD1 : va_D (va_A [] s.heap.size) [] := ⟨fun i j p q h => by simp at h, fun k q h => by simp at h⟩
  obtain ⟨hP, hD⟩ := va_join (wr := [(x0, .inr (10, [.ref xTape, .ref xReader, .ref xBag, .ref xBld, .ref xAng, .ref xSum, .ref xPik, .int 0, .ref xHan, .ref xIns, .ref xShr, .ref xSta, .ref xTur])), (xSum, .inr (8, [.ref sM, .ref sP, .ref sA, .int 0]))]) (w1 := []) hP hD [] [0, 1] rfl rfl (by decide) (by decide) hk1 hFc hP1 hD1
  generalize H1 = H at hP hS ⊢
  have hP : va_P (dC, dI) vwCl [(x0, .inr (10, [.ref xTape, .ref xReader, .ref xBag, .ref xBld, .ref xAng, .ref xSum, .ref xPik, .int 0, .ref xHan, .ref xIns, .ref xShr, .ref xSta, .ref xTur])), (xSum, .inr (8, [.ref sM, .ref sP, .ref sA, .int 0]))] H := hP
  have hD : va_D A [(x0, .inr (10, [.ref xTape, .ref xReader, .ref xBag, .ref xBld, .ref xAng, .ref xSum, .ref xPik, .int 0, .ref xHan, .ref xIns, .ref xShr, .ref xSta, .ref xTur])), (xSum, .inr (8, [.ref sM, .ref sP, .ref sA, .int 0]))] := hD
  rcases hw with ⟨rfl, k_2⟩ | ⟨rfl, k_2⟩
  · refine lv_if_ne (tgt := 10) hx hb dX10_much_4 (by decide) (fun c => absurd (by decide) c) (fun _ => ?_)
    refine lv_ldc (v := (-1000000)) hx hb hown (hts (.constant RX10 140 (-1000000)) (by decide +kernel)) dX10_much_7 ?_
    refine W.widen (k := 0) (n := 0) (Nat.le_of_ble_eq_true rfl) (Nat.le_of_ble_eq_true rfl) ?_
    exact W.iret (v := (-1000000)) hx hb hr (fun t ht hW => ⟨⟨(-1000000), (), rfl, (by (try simp only [nk_lt, nk_le, nk_eq, nk_wd, nk_c0, nk_c1, nk_c2, nk_c3, nk_c4, nk_c5, nk_c6, nk_c15, nk_c16, nk_c24, nk_c47, nk_c48, nk_c600, nk_c1728, nk_m1, nk_l0, nk_l1, nk_l2, nk_l3, nk_l5, nk_l15, nk_l24, nk_l47] at k_2); (unfold sp_v1; first | rfl | decide | (rw [if_pos (by first | omega | (simp only [nk_lt, nk_le, nk_eq, nk_wd, nk_c0, nk_c1, nk_c2, nk_c3, nk_c4, nk_c5, nk_c6, nk_c15, nk_c16, nk_c24, nk_c47, nk_c48, nk_c600, nk_c1728, nk_m1, nk_l0, nk_l1, nk_l2, nk_l3, nk_l5, nk_l15, nk_l24, nk_l47]; omega) | (simp only [nk_lt, nk_le, nk_eq, nk_wd, nk_c0, nk_c1, nk_c2, nk_c3, nk_c4, nk_c5, nk_c6, nk_c15, nk_c16, nk_c24, nk_c47, nk_c48, nk_c600, nk_c1728, nk_m1, nk_l0, nk_l1, nk_l2, nk_l3, nk_l5, nk_l15, nk_l24, nk_l47]; done))]) | (rw [if_neg (by first | omega | (simp only [nk_lt, nk_le, nk_eq, nk_wd, nk_c0, nk_c1, nk_c2, nk_c3, nk_c4, nk_c5, nk_c6, nk_c15, nk_c16, nk_c24, nk_c47, nk_c48, nk_c600, nk_c1728, nk_m1, nk_l0, nk_l1, nk_l2, nk_l3, nk_l5, nk_l15, nk_l24, nk_l47]; omega) | (simp only [nk_lt, nk_le, nk_eq, nk_wd, nk_c0, nk_c1, nk_c2, nk_c3, nk_c4, nk_c5, nk_c6, nk_c15, nk_c16, nk_c24, nk_c47, nk_c48, nk_c600, nk_c1728, nk_m1, nk_l0, nk_l1, nk_l2, nk_l3, nk_l5, nk_l15, nk_l24, nk_l47]; done))]))), trivial⟩, hS.F ht⟩) hS.2.2 dX10_much_9
  · refine lv_if_ne (tgt := 10) hx hb dX10_much_4 (by decide) (fun _ => ?_) (fun c => absurd c (by decide))
    refine lv_aload_n hx hb dX10_much_10 rfl (lv_at hl 0 rfl) ?_
    refine va_get (D := (dC, dI)) (ci := 10) (v := .ref xSum) (C := RX10) (T := TX10) (N := 13) hx hb hts hiX10 hown hK hP 0 rfl rfl 5 (by decide) (hts (.fieldLink RX10 51 "ScissorsTable" "sums" "LScissorsTable$Sums;") (by decide +kernel)) (fun _ h9 => h9) rfl dX10_much_11 ?_
    refine lv_iload_n hx hb dX10_much_14 rfl (lv_at hl 2 rfl) ?_
    refine lv_iload_n hx hb dX10_much_15 rfl (lv_at hl 3 rfl) ?_
    have hPc := hP.sub (ws' := [(xSum, .inr (8, [.ref sM, .ref sP, .ref sA, .int 0]))]) [1] rfl
    have hDc := hD.sub (ws' := [(xSum, .inr (8, [.ref sM, .ref sP, .ref sA, .int 0]))]) [1] (by decide) rfl
    have hFc := va_free (wc := [(xSum, .inr (8, [.ref sM, .ref sP, .ref sA, .int 0]))]) hD hS hA [1] rfl
    refine va_calli (va_runV (As := [.int p1, .int p2]) (rest := []) ⟨hx, hb, hml, hown, hts⟩ (c_X8_firstNotBelow l dC dI cB cI cJ H.size xSum sM sP sA p1 p2) (cwV 2 hts gX10_much_X8_firstNotBelow rfl rfl rfl (by decide +kernel) ⟨Nat.le_of_ble_eq_true rfl, Nat.le_of_ble_eq_true rfl⟩) ⟨fun a U g mk q => by obtain ⟨q0, q1, qP, qK, qD⟩ := q; exact ⟨q0, q1, qP, va_K.moved (u := U) (U := U.calling g mk a) (Vm.Alike.refl U.vm) qK, qD⟩, va_recv hK hP (ci := 8) (q0 := 1) rfl rfl, fun U hU hW => ⟨rfl, by rw [hU], by rw [hU]; exact hPc, va_K.moved hW.alike hK, hDc.weaken (fun _ _ _ _ => trivial)⟩⟩ rfl rfl hl.1 rfl (lv_room (Nat.le_of_ble_eq_true rfl)) dX10_much_16 ⟨Nat.le_of_ble_eq_true rfl, Nat.le_of_ble_eq_true rfl⟩) hS (fun q _ h => hFc q h) hFc (fun r_3 u t H1 locs ht hvm hw hB hz1 hk1 hS => ?_)
    obtain ⟨hP1, hK1, hD1⟩ := hB
    rw [ht] at hP1
    obtain ⟨hP, hD⟩ := va_join (wr := [(x0, .inr (10, [.ref xTape, .ref xReader, .ref xBag, .ref xBld, .ref xAng, .ref xSum, .ref xPik, .int 0, .ref xHan, .ref xIns, .ref xShr, .ref xSta, .ref xTur]))]) (w1 := [(xSum, .inr (8, [.ref sM, .ref sP, .ref sA, .int 0]))]) hP hD [1] [0] rfl rfl (by decide) (by decide) hk1 hFc hP1 hD1
    generalize H1 = H at hP hS ⊢
    have hP : va_P (dC, dI) vwCl [(x0, .inr (10, [.ref xTape, .ref xReader, .ref xBag, .ref xBld, .ref xAng, .ref xSum, .ref xPik, .int 0, .ref xHan, .ref xIns, .ref xShr, .ref xSta, .ref xTur])), (xSum, .inr (8, [.ref sM, .ref sP, .ref sA, .int 0]))] H := hP
    have hD : va_D A [(x0, .inr (10, [.ref xTape, .ref xReader, .ref xBag, .ref xBld, .ref xAng, .ref xSum, .ref xPik, .int 0, .ref xHan, .ref xIns, .ref xShr, .ref xSta, .ref xTur])), (xSum, .inr (8, [.ref sM, .ref sP, .ref sA, .int 0]))] := hD
    have hr_3 := hw
    obtain rfl : r_3 = 0 := hr_3
    refine lv_istore (lv' := [(4, .int 0), (0, .ref x0), (1, .int p0), (2, .int p1), (3, .int p2)]) hx hb dX10_much_19 hl (by decide) rfl (fun ls hl => ?_)
    refine lv_aload_n hx hb dX10_much_21 rfl (lv_at hl 1 rfl) ?_
    refine va_get (D := (dC, dI)) (ci := 10) (v := .ref xSum) (C := RX10) (T := TX10) (N := 13) hx hb hts hiX10 hown hK hP 0 rfl rfl 5 (by decide) (hts (.fieldLink RX10 51 "ScissorsTable" "sums" "LScissorsTable$Sums;") (by decide +kernel)) (fun _ h9 => h9) rfl dX10_much_22 ?_
    refine lv_iload hx hb dX10_much_25 (lv_at hl 0 rfl) ?_
    refine lv_iload_n hx hb dX10_much_27 rfl (lv_at hl 3 rfl) ?_
    refine lv_iload_n hx hb dX10_much_28 rfl (lv_at hl 4 rfl) ?_
    have hPc := hP.sub (ws' := [(xSum, .inr (8, [.ref sM, .ref sP, .ref sA, .int 0]))]) [1] rfl
    have hDc := hD.sub (ws' := [(xSum, .inr (8, [.ref sM, .ref sP, .ref sA, .int 0]))]) [1] (by decide) rfl
    have hFc := va_free (wc := [(xSum, .inr (8, [.ref sM, .ref sP, .ref sA, .int 0]))]) hD hS hA [1] rfl
    refine va_calli (va_runV (As := [.int 0, .int p1, .int p2]) (rest := []) ⟨hx, hb, hml, hown, hts⟩ (c_X8_isAt l dC dI cB cI cJ H.size xSum sM sP sA p1 p2) (cwV 3 hts gX10_much_X8_isAt rfl rfl rfl (by decide +kernel) ⟨Nat.le_of_ble_eq_true rfl, Nat.le_of_ble_eq_true rfl⟩) ⟨fun a U g mk q => by obtain ⟨q0, q1, qP, qK, qD⟩ := q; exact ⟨q0, q1, qP, va_K.moved (u := U) (U := U.calling g mk a) (Vm.Alike.refl U.vm) qK, qD⟩, va_recv hK hP (ci := 8) (q0 := 1) rfl rfl, fun U hU hW => ⟨rfl, by rw [hU], by rw [hU]; exact hPc, va_K.moved hW.alike hK, hDc.weaken (fun _ _ _ _ => trivial)⟩⟩ rfl rfl hl.1 rfl (lv_room (Nat.le_of_ble_eq_true rfl)) dX10_much_29 ⟨Nat.le_of_ble_eq_true rfl, Nat.le_of_ble_eq_true rfl⟩) hS (fun q _ h => hFc q h) hFc (fun r_4 u t H1 locs ht hvm hw hB hz1 hk1 hS => ?_)
    obtain ⟨hP1, hK1, hD1⟩ := hB
    rw [ht] at hP1
    obtain ⟨hP, hD⟩ := va_join (wr := [(x0, .inr (10, [.ref xTape, .ref xReader, .ref xBag, .ref xBld, .ref xAng, .ref xSum, .ref xPik, .int 0, .ref xHan, .ref xIns, .ref xShr, .ref xSta, .ref xTur]))]) (w1 := [(xSum, .inr (8, [.ref sM, .ref sP, .ref sA, .int 0]))]) hP hD [1] [0] rfl rfl (by decide) (by decide) hk1 hFc hP1 hD1
    generalize H1 = H at hP hS ⊢
    have hP : va_P (dC, dI) vwCl [(x0, .inr (10, [.ref xTape, .ref xReader, .ref xBag, .ref xBld, .ref xAng, .ref xSum, .ref xPik, .int 0, .ref xHan, .ref xIns, .ref xShr, .ref xSta, .ref xTur])), (xSum, .inr (8, [.ref sM, .ref sP, .ref sA, .int 0]))] H := hP
    have hD : va_D A [(x0, .inr (10, [.ref xTape, .ref xReader, .ref xBag, .ref xBld, .ref xAng, .ref xSum, .ref xPik, .int 0, .ref xHan, .ref xIns, .ref xShr, .ref xSta, .ref xTur])), (xSum, .inr (8, [.ref sM, .ref sP, .ref sA, .int 0]))] := hD
    have hr_4 := hw
    obtain rfl : r_4 = 0 := hr_4
    refine lv_if_eq (tgt := 48) hx hb dX10_much_32 (by decide) (fun _ => ?_) (fun c => absurd (by decide) c)
    refine lv_iconst (v := 0) hx hb dX10_much_48 (by decide) ?_
    refine W.widen (k := 0) (n := 0) (Nat.le_of_ble_eq_true rfl) (Nat.le_of_ble_eq_true rfl) ?_
    exact W.iret (v := 0) hx hb hr (fun t ht hW => ⟨⟨0, (), rfl, (by (try simp only [nk_lt, nk_le, nk_eq, nk_wd, nk_c0, nk_c1, nk_c2, nk_c3, nk_c4, nk_c5, nk_c6, nk_c15, nk_c16, nk_c24, nk_c47, nk_c48, nk_c600, nk_c1728, nk_m1, nk_l0, nk_l1, nk_l2, nk_l3, nk_l5, nk_l15, nk_l24, nk_l47] at k_2); (unfold sp_v1; first | rfl | decide | (rw [if_pos (by first | omega | (simp only [nk_lt, nk_le, nk_eq, nk_wd, nk_c0, nk_c1, nk_c2, nk_c3, nk_c4, nk_c5, nk_c6, nk_c15, nk_c16, nk_c24, nk_c47, nk_c48, nk_c600, nk_c1728, nk_m1, nk_l0, nk_l1, nk_l2, nk_l3, nk_l5, nk_l15, nk_l24, nk_l47]; omega) | (simp only [nk_lt, nk_le, nk_eq, nk_wd, nk_c0, nk_c1, nk_c2, nk_c3, nk_c4, nk_c5, nk_c6, nk_c15, nk_c16, nk_c24, nk_c47, nk_c48, nk_c600, nk_c1728, nk_m1, nk_l0, nk_l1, nk_l2, nk_l3, nk_l5, nk_l15, nk_l24, nk_l47]; done))]) | (rw [if_neg (by first | omega | (simp only [nk_lt, nk_le, nk_eq, nk_wd, nk_c0, nk_c1, nk_c2, nk_c3, nk_c4, nk_c5, nk_c6, nk_c15, nk_c16, nk_c24, nk_c47, nk_c48, nk_c600, nk_c1728, nk_m1, nk_l0, nk_l1, nk_l2, nk_l3, nk_l5, nk_l15, nk_l24, nk_l47]; omega) | (simp only [nk_lt, nk_le, nk_eq, nk_wd, nk_c0, nk_c1, nk_c2, nk_c3, nk_c4, nk_c5, nk_c6, nk_c15, nk_c16, nk_c24, nk_c47, nk_c48, nk_c600, nk_c1728, nk_m1, nk_l0, nk_l1, nk_l2, nk_l3, nk_l5, nk_l15, nk_l24, nk_l47]; done))]))), trivial⟩, hS.F ht⟩) hS.2.2 dX10_much_49
set_option maxHeartbeats 4000000 in
set_option maxRecDepth 100000 in
theorem c_X10_lacks (l : Launch) (dC : Nat → ClassId) (dI : Nat → Nat → Nat) (cB cI cJ : ClassId) (sz : Nat) (x0 xTape xReader xBag xBld xAng xSum xPik xHan xIns xShr xSta xTur bC bS bX bW bP : Nat) (p0 p1 : Int32) : Met l yX10_lacks wsX10_lacks ({ frames := 2, cells := 0, slots := 0, locals := 47 }) (va_Pc [.ref x0, .int p0, .int p1] (fun U => U.heap.size = sz ∧ va_P (dC, dI) vwCl [(x0, .inr (10, [.ref xTape, .ref xReader, .ref xBag, .ref xBld, .ref xAng, .ref xSum, .ref xPik, .int 0, .ref xHan, .ref xIns, .ref xShr, .ref xSta, .ref xTur])), (xBag, .inr (1, [.ref bC, .ref bS, .ref bX, .ref bW, .ref bP, .int 0]))] U.heap ∧ va_K (dC, dI) vwCl [(cB, .byte), (cI, .int), (cJ, .long)] U ∧ va_D (fun _ => True) [(x0, .inr (10, [.ref xTape, .ref xReader, .ref xBag, .ref xBld, .ref xAng, .ref xSum, .ref xPik, .int 0, .ref xHan, .ref xIns, .ref xShr, .ref xSta, .ref xTur])), (xBag, .inr (1, [.ref bC, .ref bS, .ref bX, .ref bW, .ref bP, .int 0]))])) (va_Qi (fun (r : Int32) (_ : Unit) => r = sp_two p0 p1 0 (-1000000)) (fun _ _ => True) (va_A [(x0, .inr (10, [.ref xTape, .ref xReader, .ref xBag, .ref xBld, .ref xAng, .ref xSum, .ref xPik, .int 0, .ref xHan, .ref xIns, .ref xShr, .ref xSta, .ref xTur])), (xBag, .inr (1, [.ref bC, .ref bS, .ref bX, .ref bW, .ref bP, .int 0]))] sz)) 0 0 (va_A [(x0, .inr (10, [.ref xTape, .ref xReader, .ref xBag, .ref xBld, .ref xAng, .ref xSum, .ref xPik, .int 0, .ref xHan, .ref xIns, .ref xShr, .ref xSta, .ref xTur])), (xBag, .inr (1, [.ref bC, .ref bS, .ref bX, .ref bW, .ref bP, .int 0]))] sz) := by
  refine Met.ofW (cc := cX10_lacks) (maxL := 3) (ret := (some .int)) (by decide) rfl ?_
  intro p e s m args below meth c s₁ B hml hv
  obtain ⟨rfl, hsz, hP, hK, hD0⟩ := hv
  have hx := B.exec
  have hb := B.bytes
  have hr := B.returns
  have hts := atoms_spec (ws := wsX10_lacks) B.pre
  have hown : s.vm.findClass RX10 = some m.cls := findClass_of_methodNamed B.named
  have hlocks := B.notSynchronized
  have hiX10 : ∀ w ∈ u_ws RX10 TX10 13, w ∈ wsX10_lacks := by decide +kernel
  subst hsz
  have hD := hD0.self (sz := s.heap.size)
  generalize hAe : va_A [(x0, .inr (10, [.ref xTape, .ref xReader, .ref xBag, .ref xBld, .ref xAng, .ref xSum, .ref xPik, .int 0, .ref xHan, .ref xIns, .ref xShr, .ref xSta, .ref xTur])), (xBag, .inr (1, [.ref bC, .ref bS, .ref bX, .ref bW, .ref bP, .int 0]))] s.heap.size = A at hD ⊢
  have hA : ∀ q : Nat, s.heap.size ≤ q → A q := fun q h => by rw [← hAe]; exact Or.inr h
  have hS : va_S A s.heap s.heap [] := va_S.rf
  have hP : va_P (dC, dI) vwCl [(x0, .inr (10, [.ref xTape, .ref xReader, .ref xBag, .ref xBld, .ref xAng, .ref xSum, .ref xPik, .int 0, .ref xHan, .ref xIns, .ref xShr, .ref xSta, .ref xTur])), (xBag, .inr (1, [.ref bC, .ref bS, .ref bX, .ref bW, .ref bP, .int 0]))] s.heap := hP
  have hl := lv_entry ([.ref x0, .int p0, .int p1]) (n := 3) (Nat.le_of_ble_eq_true rfl)
  rw [lg_entry_eq]
  generalize (lg_sl ([.ref x0, .int p0, .int p1]) ++ List.replicate (3 - (lg_sl ([.ref x0, .int p0, .int p1])).length) Slot.unset).toArray = ls at hl ⊢
  have hl : lv_has ls 3 [(0, .ref x0), (1, .int p0), (2, .int p1)] := hl
  refine lv_iload_n hx hb dX10_lacks_0 rfl (lv_at hl 1 rfl) ?_
  have hPc := hP.sub (ws' := []) [] rfl
  have hDc := hD.sub (ws' := []) [] (by decide) rfl
  have hFc := va_free (wc := []) hD hS hA [] rfl
  refine va_calli (va_runS (As := [.int p0]) (rest := []) ⟨hx, hb, hml, hown, hts⟩ (c_X10_isSolid l dC dI cB cI cJ s.heap.size p0) (va_cwS 1 hts gX10_lacks_X10_isSolid rfl rfl rfl (by decide +kernel) ⟨Nat.le_of_ble_eq_true rfl, Nat.le_of_ble_eq_true rfl⟩) ⟨fun a U g mk q => by obtain ⟨q0, q1, qP, qK, qD⟩ := q; exact ⟨q0, q1, qP, va_K.moved (u := U) (U := U.calling g mk a) (Vm.Alike.refl U.vm) qK, qD⟩, fun U hU hW => ⟨rfl, by rw [hU], by rw [hU]; exact hPc, va_K.moved hW.alike hK, hDc.weaken (fun _ _ _ _ => trivial)⟩⟩ rfl rfl hl.1 rfl (lv_room (Nat.le_of_ble_eq_true rfl)) dX10_lacks_1 ⟨Nat.le_of_ble_eq_true rfl, Nat.le_of_ble_eq_true rfl⟩) hS (fun q _ h => hFc q h) hFc (fun r_1 u t H1 locs ht hvm hw hB hz1 hk1 hS => ?_)
  have hP1 : va_P (dC, dI) vwCl [] H1 := fun k q h => by simp at h
  have hD1 : va_D (va_A [] s.heap.size) [] := ⟨fun i j p q h => by simp at h, fun k q h => by simp at h⟩
  obtain ⟨hP, hD⟩ := va_join (wr := [(x0, .inr (10, [.ref xTape, .ref xReader, .ref xBag, .ref xBld, .ref xAng, .ref xSum, .ref xPik, .int 0, .ref xHan, .ref xIns, .ref xShr, .ref xSta, .ref xTur])), (xBag, .inr (1, [.ref bC, .ref bS, .ref bX, .ref bW, .ref bP, .int 0]))]) (w1 := []) hP hD [] [0, 1] rfl rfl (by decide) (by decide) hk1 hFc hP1 hD1
  generalize H1 = H at hP hS ⊢
  have hP : va_P (dC, dI) vwCl [(x0, .inr (10, [.ref xTape, .ref xReader, .ref xBag, .ref xBld, .ref xAng, .ref xSum, .ref xPik, .int 0, .ref xHan, .ref xIns, .ref xShr, .ref xSta, .ref xTur])), (xBag, .inr (1, [.ref bC, .ref bS, .ref bX, .ref bW, .ref bP, .int 0]))] H := hP
  have hD : va_D A [(x0, .inr (10, [.ref xTape, .ref xReader, .ref xBag, .ref xBld, .ref xAng, .ref xSum, .ref xPik, .int 0, .ref xHan, .ref xIns, .ref xShr, .ref xSta, .ref xTur])), (xBag, .inr (1, [.ref bC, .ref bS, .ref bX, .ref bW, .ref bP, .int 0]))] := hD
  rcases hw with ⟨rfl, k_2⟩ | ⟨rfl, k_2⟩
  · refine lv_if_eq (tgt := 14) hx hb dX10_lacks_4 (by decide) (fun _ => ?_) (fun c => absurd (by decide) c)
    refine lv_ldc (v := (-1000000)) hx hb hown (hts (.constant RX10 140 (-1000000)) (by decide +kernel)) dX10_lacks_14 ?_
    refine W.widen (k := 0) (n := 0) (Nat.le_of_ble_eq_true rfl) (Nat.le_of_ble_eq_true rfl) ?_
    exact W.iret (v := (-1000000)) hx hb hr (fun t ht hW => ⟨⟨(-1000000), (), rfl, (by (try simp only [nk_lt, nk_le, nk_eq, nk_wd, nk_c0, nk_c1, nk_c2, nk_c3, nk_c4, nk_c5, nk_c6, nk_c15, nk_c16, nk_c24, nk_c47, nk_c48, nk_c600, nk_c1728, nk_m1, nk_l0, nk_l1, nk_l2, nk_l3, nk_l5, nk_l15, nk_l24, nk_l47] at k_2); (unfold sp_two; first | rfl | decide | (rw [if_pos (by first | omega | (simp only [nk_lt, nk_le, nk_eq, nk_wd, nk_c0, nk_c1, nk_c2, nk_c3, nk_c4, nk_c5, nk_c6, nk_c15, nk_c16, nk_c24, nk_c47, nk_c48, nk_c600, nk_c1728, nk_m1, nk_l0, nk_l1, nk_l2, nk_l3, nk_l5, nk_l15, nk_l24, nk_l47]; omega) | (simp only [nk_lt, nk_le, nk_eq, nk_wd, nk_c0, nk_c1, nk_c2, nk_c3, nk_c4, nk_c5, nk_c6, nk_c15, nk_c16, nk_c24, nk_c47, nk_c48, nk_c600, nk_c1728, nk_m1, nk_l0, nk_l1, nk_l2, nk_l3, nk_l5, nk_l15, nk_l24, nk_l47]; done))]) | (rw [if_neg (by first | omega | (simp only [nk_lt, nk_le, nk_eq, nk_wd, nk_c0, nk_c1, nk_c2, nk_c3, nk_c4, nk_c5, nk_c6, nk_c15, nk_c16, nk_c24, nk_c47, nk_c48, nk_c600, nk_c1728, nk_m1, nk_l0, nk_l1, nk_l2, nk_l3, nk_l5, nk_l15, nk_l24, nk_l47]; omega) | (simp only [nk_lt, nk_le, nk_eq, nk_wd, nk_c0, nk_c1, nk_c2, nk_c3, nk_c4, nk_c5, nk_c6, nk_c15, nk_c16, nk_c24, nk_c47, nk_c48, nk_c600, nk_c1728, nk_m1, nk_l0, nk_l1, nk_l2, nk_l3, nk_l5, nk_l15, nk_l24, nk_l47]; done))]))), trivial⟩, hS.F ht⟩) hS.2.2 dX10_lacks_16
  · refine lv_if_eq (tgt := 14) hx hb dX10_lacks_4 (by decide) (fun c => absurd c (by decide)) (fun _ => ?_)
    refine lv_iload_n hx hb dX10_lacks_7 rfl (lv_at hl 2 rfl) ?_
    have hPc := hP.sub (ws' := []) [] rfl
    have hDc := hD.sub (ws' := []) [] (by decide) rfl
    have hFc := va_free (wc := []) hD hS hA [] rfl
    refine va_calli (va_runS (As := [.int p1]) (rest := []) ⟨hx, hb, hml, hown, hts⟩ (c_X10_isSolid l dC dI cB cI cJ H.size p1) (va_cwS 1 hts gX10_lacks_X10_isSolid rfl rfl rfl (by decide +kernel) ⟨Nat.le_of_ble_eq_true rfl, Nat.le_of_ble_eq_true rfl⟩) ⟨fun a U g mk q => by obtain ⟨q0, q1, qP, qK, qD⟩ := q; exact ⟨q0, q1, qP, va_K.moved (u := U) (U := U.calling g mk a) (Vm.Alike.refl U.vm) qK, qD⟩, fun U hU hW => ⟨rfl, by rw [hU], by rw [hU]; exact hPc, va_K.moved hW.alike hK, hDc.weaken (fun _ _ _ _ => trivial)⟩⟩ rfl rfl hl.1 rfl (lv_room (Nat.le_of_ble_eq_true rfl)) dX10_lacks_8 ⟨Nat.le_of_ble_eq_true rfl, Nat.le_of_ble_eq_true rfl⟩) hS (fun q _ h => hFc q h) hFc (fun r_3 u t H1 locs ht hvm hw hB hz1 hk1 hS => ?_)
    have hP1 : va_P (dC, dI) vwCl [] H1 := fun k q h => by simp at h
    have hD1 : va_D (va_A [] H.size) [] := ⟨fun i j p q h => by simp at h, fun k q h => by simp at h⟩
    obtain ⟨hP, hD⟩ := va_join (wr := [(x0, .inr (10, [.ref xTape, .ref xReader, .ref xBag, .ref xBld, .ref xAng, .ref xSum, .ref xPik, .int 0, .ref xHan, .ref xIns, .ref xShr, .ref xSta, .ref xTur])), (xBag, .inr (1, [.ref bC, .ref bS, .ref bX, .ref bW, .ref bP, .int 0]))]) (w1 := []) hP hD [] [0, 1] rfl rfl (by decide) (by decide) hk1 hFc hP1 hD1
    generalize H1 = H at hP hS ⊢
    have hP : va_P (dC, dI) vwCl [(x0, .inr (10, [.ref xTape, .ref xReader, .ref xBag, .ref xBld, .ref xAng, .ref xSum, .ref xPik, .int 0, .ref xHan, .ref xIns, .ref xShr, .ref xSta, .ref xTur])), (xBag, .inr (1, [.ref bC, .ref bS, .ref bX, .ref bW, .ref bP, .int 0]))] H := hP
    have hD : va_D A [(x0, .inr (10, [.ref xTape, .ref xReader, .ref xBag, .ref xBld, .ref xAng, .ref xSum, .ref xPik, .int 0, .ref xHan, .ref xIns, .ref xShr, .ref xSta, .ref xTur])), (xBag, .inr (1, [.ref bC, .ref bS, .ref bX, .ref bW, .ref bP, .int 0]))] := hD
    rcases hw with ⟨rfl, k_4⟩ | ⟨rfl, k_4⟩
    · refine lv_if_ne (tgt := 17) hx hb dX10_lacks_11 (by decide) (fun c => absurd (by decide) c) (fun _ => ?_)
      refine lv_ldc (v := (-1000000)) hx hb hown (hts (.constant RX10 140 (-1000000)) (by decide +kernel)) dX10_lacks_14 ?_
      refine W.widen (k := 0) (n := 0) (Nat.le_of_ble_eq_true rfl) (Nat.le_of_ble_eq_true rfl) ?_
      exact W.iret (v := (-1000000)) hx hb hr (fun t ht hW => ⟨⟨(-1000000), (), rfl, (by (try simp only [nk_lt, nk_le, nk_eq, nk_wd, nk_c0, nk_c1, nk_c2, nk_c3, nk_c4, nk_c5, nk_c6, nk_c15, nk_c16, nk_c24, nk_c47, nk_c48, nk_c600, nk_c1728, nk_m1, nk_l0, nk_l1, nk_l2, nk_l3, nk_l5, nk_l15, nk_l24, nk_l47] at k_2 k_4); (unfold sp_two; first | rfl | decide | (rw [if_pos (by first | omega | (simp only [nk_lt, nk_le, nk_eq, nk_wd, nk_c0, nk_c1, nk_c2, nk_c3, nk_c4, nk_c5, nk_c6, nk_c15, nk_c16, nk_c24, nk_c47, nk_c48, nk_c600, nk_c1728, nk_m1, nk_l0, nk_l1, nk_l2, nk_l3, nk_l5, nk_l15, nk_l24, nk_l47]; omega) | (simp only [nk_lt, nk_le, nk_eq, nk_wd, nk_c0, nk_c1, nk_c2, nk_c3, nk_c4, nk_c5, nk_c6, nk_c15, nk_c16, nk_c24, nk_c47, nk_c48, nk_c600, nk_c1728, nk_m1, nk_l0, nk_l1, nk_l2, nk_l3, nk_l5, nk_l15, nk_l24, nk_l47]; done))]) | (rw [if_neg (by first | omega | (simp only [nk_lt, nk_le, nk_eq, nk_wd, nk_c0, nk_c1, nk_c2, nk_c3, nk_c4, nk_c5, nk_c6, nk_c15, nk_c16, nk_c24, nk_c47, nk_c48, nk_c600, nk_c1728, nk_m1, nk_l0, nk_l1, nk_l2, nk_l3, nk_l5, nk_l15, nk_l24, nk_l47]; omega) | (simp only [nk_lt, nk_le, nk_eq, nk_wd, nk_c0, nk_c1, nk_c2, nk_c3, nk_c4, nk_c5, nk_c6, nk_c15, nk_c16, nk_c24, nk_c47, nk_c48, nk_c600, nk_c1728, nk_m1, nk_l0, nk_l1, nk_l2, nk_l3, nk_l5, nk_l15, nk_l24, nk_l47]; done))]))), trivial⟩, hS.F ht⟩) hS.2.2 dX10_lacks_16
    · refine lv_if_ne (tgt := 17) hx hb dX10_lacks_11 (by decide) (fun _ => ?_) (fun c => absurd c (by decide))
      refine lv_aload_n hx hb dX10_lacks_17 rfl (lv_at hl 0 rfl) ?_
      refine va_get (D := (dC, dI)) (ci := 10) (v := .ref xBag) (C := RX10) (T := TX10) (N := 13) hx hb hts hiX10 hown hK hP 0 rfl rfl 2 (by decide) (hts (.fieldLink RX10 28 "ScissorsTable" "bag" "LScissorsTable$Bag;") (by decide +kernel)) (fun _ h9 => h9) rfl dX10_lacks_18 ?_
      refine lv_iload_n hx hb dX10_lacks_21 rfl (lv_at hl 1 rfl) ?_
      have hPc := hP.sub (ws' := [(xBag, .inr (1, [.ref bC, .ref bS, .ref bX, .ref bW, .ref bP, .int 0]))]) [1] rfl
      have hDc := hD.sub (ws' := [(xBag, .inr (1, [.ref bC, .ref bS, .ref bX, .ref bW, .ref bP, .int 0]))]) [1] (by decide) rfl
      have hFc := va_free (wc := [(xBag, .inr (1, [.ref bC, .ref bS, .ref bX, .ref bW, .ref bP, .int 0]))]) hD hS hA [1] rfl
      refine va_calli (va_runV (As := [.int p0]) (rest := []) ⟨hx, hb, hml, hown, hts⟩ (c_X1_sixOfSolid l dC dI cB cI cJ H.size xBag bC bS bX bW bP p0) (cwV 1 hts gX10_lacks_X1_sixOfSolid rfl rfl rfl (by decide +kernel) ⟨Nat.le_of_ble_eq_true rfl, Nat.le_of_ble_eq_true rfl⟩) ⟨fun a U g mk q => by obtain ⟨q0, q1, qP, qK, qD⟩ := q; exact ⟨q0, q1, qP, va_K.moved (u := U) (U := U.calling g mk a) (Vm.Alike.refl U.vm) qK, qD⟩, va_recv hK hP (ci := 1) (q0 := 1) rfl rfl, fun U hU hW => ⟨rfl, by rw [hU], by rw [hU]; exact hPc, va_K.moved hW.alike hK, hDc.weaken (fun _ _ _ _ => trivial)⟩⟩ rfl rfl hl.1 rfl (lv_room (Nat.le_of_ble_eq_true rfl)) dX10_lacks_22 ⟨Nat.le_of_ble_eq_true rfl, Nat.le_of_ble_eq_true rfl⟩) hS (fun q _ h => hFc q h) hFc (fun r_5 u t H1 locs ht hvm hw hB hz1 hk1 hS => ?_)
      obtain ⟨hP1, hK1, hD1⟩ := hB
      rw [ht] at hP1
      obtain ⟨hP, hD⟩ := va_join (wr := [(x0, .inr (10, [.ref xTape, .ref xReader, .ref xBag, .ref xBld, .ref xAng, .ref xSum, .ref xPik, .int 0, .ref xHan, .ref xIns, .ref xShr, .ref xSta, .ref xTur]))]) (w1 := [(xBag, .inr (1, [.ref bC, .ref bS, .ref bX, .ref bW, .ref bP, .int 0]))]) hP hD [1] [0] rfl rfl (by decide) (by decide) hk1 hFc hP1 hD1
      generalize H1 = H at hP hS ⊢
      have hP : va_P (dC, dI) vwCl [(x0, .inr (10, [.ref xTape, .ref xReader, .ref xBag, .ref xBld, .ref xAng, .ref xSum, .ref xPik, .int 0, .ref xHan, .ref xIns, .ref xShr, .ref xSta, .ref xTur])), (xBag, .inr (1, [.ref bC, .ref bS, .ref bX, .ref bW, .ref bP, .int 0]))] H := hP
      have hD : va_D A [(x0, .inr (10, [.ref xTape, .ref xReader, .ref xBag, .ref xBld, .ref xAng, .ref xSum, .ref xPik, .int 0, .ref xHan, .ref xIns, .ref xShr, .ref xSta, .ref xTur])), (xBag, .inr (1, [.ref bC, .ref bS, .ref bX, .ref bW, .ref bP, .int 0]))] := hD
      have hr_5 := hw
      obtain rfl : r_5 = 0 := hr_5
      refine lv_aload_n hx hb dX10_lacks_25 rfl (lv_at hl 0 rfl) ?_
      refine va_get (D := (dC, dI)) (ci := 10) (v := .ref xBag) (C := RX10) (T := TX10) (N := 13) hx hb hts hiX10 hown hK hP 0 rfl rfl 2 (by decide) (hts (.fieldLink RX10 28 "ScissorsTable" "bag" "LScissorsTable$Bag;") (by decide +kernel)) (fun _ h9 => h9) rfl dX10_lacks_26 ?_
      refine lv_iload_n hx hb dX10_lacks_29 rfl (lv_at hl 2 rfl) ?_
      have hPc := hP.sub (ws' := [(xBag, .inr (1, [.ref bC, .ref bS, .ref bX, .ref bW, .ref bP, .int 0]))]) [1] rfl
      have hDc := hD.sub (ws' := [(xBag, .inr (1, [.ref bC, .ref bS, .ref bX, .ref bW, .ref bP, .int 0]))]) [1] (by decide) rfl
      have hFc := va_free (wc := [(xBag, .inr (1, [.ref bC, .ref bS, .ref bX, .ref bW, .ref bP, .int 0]))]) hD hS hA [1] rfl
      refine va_calli (va_runV (As := [.int p1]) (rest := [.int 0]) ⟨hx, hb, hml, hown, hts⟩ (c_X1_sixOfSolid l dC dI cB cI cJ H.size xBag bC bS bX bW bP p1) (cwV 1 hts gX10_lacks_X1_sixOfSolid rfl rfl rfl (by decide +kernel) ⟨Nat.le_of_ble_eq_true rfl, Nat.le_of_ble_eq_true rfl⟩) ⟨fun a U g mk q => by obtain ⟨q0, q1, qP, qK, qD⟩ := q; exact ⟨q0, q1, qP, va_K.moved (u := U) (U := U.calling g mk a) (Vm.Alike.refl U.vm) qK, qD⟩, va_recv hK hP (ci := 1) (q0 := 1) rfl rfl, fun U hU hW => ⟨rfl, by rw [hU], by rw [hU]; exact hPc, va_K.moved hW.alike hK, hDc.weaken (fun _ _ _ _ => trivial)⟩⟩ rfl rfl hl.1 rfl (lv_room (Nat.le_of_ble_eq_true rfl)) dX10_lacks_30 ⟨Nat.le_of_ble_eq_true rfl, Nat.le_of_ble_eq_true rfl⟩) hS (fun q _ h => hFc q h) hFc (fun r_6 u t H1 locs ht hvm hw hB hz1 hk1 hS => ?_)
      obtain ⟨hP1, hK1, hD1⟩ := hB
      rw [ht] at hP1
      obtain ⟨hP, hD⟩ := va_join (wr := [(x0, .inr (10, [.ref xTape, .ref xReader, .ref xBag, .ref xBld, .ref xAng, .ref xSum, .ref xPik, .int 0, .ref xHan, .ref xIns, .ref xShr, .ref xSta, .ref xTur]))]) (w1 := [(xBag, .inr (1, [.ref bC, .ref bS, .ref bX, .ref bW, .ref bP, .int 0]))]) hP hD [1] [0] rfl rfl (by decide) (by decide) hk1 hFc hP1 hD1
      generalize H1 = H at hP hS ⊢
      have hP : va_P (dC, dI) vwCl [(x0, .inr (10, [.ref xTape, .ref xReader, .ref xBag, .ref xBld, .ref xAng, .ref xSum, .ref xPik, .int 0, .ref xHan, .ref xIns, .ref xShr, .ref xSta, .ref xTur])), (xBag, .inr (1, [.ref bC, .ref bS, .ref bX, .ref bW, .ref bP, .int 0]))] H := hP
      have hD : va_D A [(x0, .inr (10, [.ref xTape, .ref xReader, .ref xBag, .ref xBld, .ref xAng, .ref xSum, .ref xPik, .int 0, .ref xHan, .ref xIns, .ref xShr, .ref xSta, .ref xTur])), (xBag, .inr (1, [.ref bC, .ref bS, .ref bX, .ref bW, .ref bP, .int 0]))] := hD
      have hr_6 := hw
      obtain rfl : r_6 = 0 := hr_6
      refine lv_isub hx hb dX10_lacks_33 ?_
      refine lv_topi (fun x_7 ex_7 => ?_)
      obtain rfl : x_7 = 0 := ex_7.trans (by first | rfl | decide)
      refine W.widen (k := 0) (n := 0) (Nat.le_of_ble_eq_true rfl) (Nat.le_of_ble_eq_true rfl) ?_
      exact W.iret (v := 0) hx hb hr (fun t ht hW => ⟨⟨0, (), rfl, (by (try simp only [nk_lt, nk_le, nk_eq, nk_wd, nk_c0, nk_c1, nk_c2, nk_c3, nk_c4, nk_c5, nk_c6, nk_c15, nk_c16, nk_c24, nk_c47, nk_c48, nk_c600, nk_c1728, nk_m1, nk_l0, nk_l1, nk_l2, nk_l3, nk_l5, nk_l15, nk_l24, nk_l47] at k_2 k_4); (unfold sp_two; first | rfl | decide | (rw [if_pos (by first | omega | (simp only [nk_lt, nk_le, nk_eq, nk_wd, nk_c0, nk_c1, nk_c2, nk_c3, nk_c4, nk_c5, nk_c6, nk_c15, nk_c16, nk_c24, nk_c47, nk_c48, nk_c600, nk_c1728, nk_m1, nk_l0, nk_l1, nk_l2, nk_l3, nk_l5, nk_l15, nk_l24, nk_l47]; omega) | (simp only [nk_lt, nk_le, nk_eq, nk_wd, nk_c0, nk_c1, nk_c2, nk_c3, nk_c4, nk_c5, nk_c6, nk_c15, nk_c16, nk_c24, nk_c47, nk_c48, nk_c600, nk_c1728, nk_m1, nk_l0, nk_l1, nk_l2, nk_l3, nk_l5, nk_l15, nk_l24, nk_l47]; done))]) | (rw [if_neg (by first | omega | (simp only [nk_lt, nk_le, nk_eq, nk_wd, nk_c0, nk_c1, nk_c2, nk_c3, nk_c4, nk_c5, nk_c6, nk_c15, nk_c16, nk_c24, nk_c47, nk_c48, nk_c600, nk_c1728, nk_m1, nk_l0, nk_l1, nk_l2, nk_l3, nk_l5, nk_l15, nk_l24, nk_l47]; omega) | (simp only [nk_lt, nk_le, nk_eq, nk_wd, nk_c0, nk_c1, nk_c2, nk_c3, nk_c4, nk_c5, nk_c6, nk_c15, nk_c16, nk_c24, nk_c47, nk_c48, nk_c600, nk_c1728, nk_m1, nk_l0, nk_l1, nk_l2, nk_l3, nk_l5, nk_l15, nk_l24, nk_l47]; done))]))), trivial⟩, hS.F ht⟩) hS.2.2 dX10_lacks_34
set_option maxHeartbeats 4000000 in
set_option maxRecDepth 100000 in
theorem c_X10_alike (l : Launch) (dC : Nat → ClassId) (dI : Nat → Nat → Nat) (cB cI cJ : ClassId) (sz : Nat) (x0 xTape xReader xBag xBld xAng xSum xPik xHan xIns xShr xSta xTur bC bS bX bW bP sM sP sA : Nat) (p0 p1 : Int32) : Met l yX10_alike wsX10_alike ({ frames := 2, cells := 0, slots := 0, locals := 47 }) (va_Pc [.ref x0, .int p0, .int p1] (fun U => U.heap.size = sz ∧ va_P (dC, dI) vwCl [(x0, .inr (10, [.ref xTape, .ref xReader, .ref xBag, .ref xBld, .ref xAng, .ref xSum, .ref xPik, .int 0, .ref xHan, .ref xIns, .ref xShr, .ref xSta, .ref xTur])), (xBag, .inr (1, [.ref bC, .ref bS, .ref bX, .ref bW, .ref bP, .int 0])), (xSum, .inr (8, [.ref sM, .ref sP, .ref sA, .int 0]))] U.heap ∧ va_K (dC, dI) vwCl [(cB, .byte), (cI, .int), (cJ, .long)] U ∧ va_D (fun _ => True) [(x0, .inr (10, [.ref xTape, .ref xReader, .ref xBag, .ref xBld, .ref xAng, .ref xSum, .ref xPik, .int 0, .ref xHan, .ref xIns, .ref xShr, .ref xSta, .ref xTur])), (xBag, .inr (1, [.ref bC, .ref bS, .ref bX, .ref bW, .ref bP, .int 0])), (xSum, .inr (8, [.ref sM, .ref sP, .ref sA, .int 0]))])) (va_Qi (fun (r : Int32) (_ : Unit) => r = sp_two p0 p1 0 (-1)) (fun _ _ => True) (va_A [(x0, .inr (10, [.ref xTape, .ref xReader, .ref xBag, .ref xBld, .ref xAng, .ref xSum, .ref xPik, .int 0, .ref xHan, .ref xIns, .ref xShr, .ref xSta, .ref xTur])), (xBag, .inr (1, [.ref bC, .ref bS, .ref bX, .ref bW, .ref bP, .int 0])), (xSum, .inr (8, [.ref sM, .ref sP, .ref sA, .int 0]))] sz)) 0 0 (va_A [(x0, .inr (10, [.ref xTape, .ref xReader, .ref xBag, .ref xBld, .ref xAng, .ref xSum, .ref xPik, .int 0, .ref xHan, .ref xIns, .ref xShr, .ref xSta, .ref xTur])), (xBag, .inr (1, [.ref bC, .ref bS, .ref bX, .ref bW, .ref bP, .int 0])), (xSum, .inr (8, [.ref sM, .ref sP, .ref sA, .int 0]))] sz) := by
  refine Met.ofW (cc := cX10_alike) (maxL := 3) (ret := (some .int)) (by decide) rfl ?_
  intro p e s m args below meth c s₁ B hml hv
  obtain ⟨rfl, hsz, hP, hK, hD0⟩ := hv
  have hx := B.exec
  have hb := B.bytes
  have hr := B.returns
  have hts := atoms_spec (ws := wsX10_alike) B.pre
  have hown : s.vm.findClass RX10 = some m.cls := findClass_of_methodNamed B.named
  have hlocks := B.notSynchronized
  have hiX10 : ∀ w ∈ u_ws RX10 TX10 13, w ∈ wsX10_alike := by decide +kernel
  subst hsz
  have hD := hD0.self (sz := s.heap.size)
  generalize hAe : va_A [(x0, .inr (10, [.ref xTape, .ref xReader, .ref xBag, .ref xBld, .ref xAng, .ref xSum, .ref xPik, .int 0, .ref xHan, .ref xIns, .ref xShr, .ref xSta, .ref xTur])), (xBag, .inr (1, [.ref bC, .ref bS, .ref bX, .ref bW, .ref bP, .int 0])), (xSum, .inr (8, [.ref sM, .ref sP, .ref sA, .int 0]))] s.heap.size = A at hD ⊢
  have hA : ∀ q : Nat, s.heap.size ≤ q → A q := fun q h => by rw [← hAe]; exact Or.inr h
  have hS : va_S A s.heap s.heap [] := va_S.rf
  have hP : va_P (dC, dI) vwCl [(x0, .inr (10, [.ref xTape, .ref xReader, .ref xBag, .ref xBld, .ref xAng, .ref xSum, .ref xPik, .int 0, .ref xHan, .ref xIns, .ref xShr, .ref xSta, .ref xTur])), (xBag, .inr (1, [.ref bC, .ref bS, .ref bX, .ref bW, .ref bP, .int 0])), (xSum, .inr (8, [.ref sM, .ref sP, .ref sA, .int 0]))] s.heap := hP
  have hl := lv_entry ([.ref x0, .int p0, .int p1]) (n := 3) (Nat.le_of_ble_eq_true rfl)
  rw [lg_entry_eq]
  generalize (lg_sl ([.ref x0, .int p0, .int p1]) ++ List.replicate (3 - (lg_sl ([.ref x0, .int p0, .int p1])).length) Slot.unset).toArray = ls at hl ⊢
  have hl : lv_has ls 3 [(0, .ref x0), (1, .int p0), (2, .int p1)] := hl
  refine lv_iload_n hx hb dX10_alike_0 rfl (lv_at hl 1 rfl) ?_
  have hPc := hP.sub (ws' := []) [] rfl
  have hDc := hD.sub (ws' := []) [] (by decide) rfl
  have hFc := va_free (wc := []) hD hS hA [] rfl
  refine va_calli (va_runS (As := [.int p0]) (rest := []) ⟨hx, hb, hml, hown, hts⟩ (c_X10_isSolid l dC dI cB cI cJ s.heap.size p0) (va_cwS 1 hts gX10_alike_X10_isSolid rfl rfl rfl (by decide +kernel) ⟨Nat.le_of_ble_eq_true rfl, Nat.le_of_ble_eq_true rfl⟩) ⟨fun a U g mk q => by obtain ⟨q0, q1, qP, qK, qD⟩ := q; exact ⟨q0, q1, qP, va_K.moved (u := U) (U := U.calling g mk a) (Vm.Alike.refl U.vm) qK, qD⟩, fun U hU hW => ⟨rfl, by rw [hU], by rw [hU]; exact hPc, va_K.moved hW.alike hK, hDc.weaken (fun _ _ _ _ => trivial)⟩⟩ rfl rfl hl.1 rfl (lv_room (Nat.le_of_ble_eq_true rfl)) dX10_alike_1 ⟨Nat.le_of_ble_eq_true rfl, Nat.le_of_ble_eq_true rfl⟩) hS (fun q _ h => hFc q h) hFc (fun r_1 u t H1 locs ht hvm hw hB hz1 hk1 hS => ?_)
  have hP1 : va_P (dC, dI) vwCl [] H1 := fun k q h => by simp at h
  have hD1 : va_D (va_A [] s.heap.size) [] := ⟨fun i j p q h => by simp at h, fun k q h => by simp at h⟩
  obtain ⟨hP, hD⟩ := va_join (wr := [(x0, .inr (10, [.ref xTape, .ref xReader, .ref xBag, .ref xBld, .ref xAng, .ref xSum, .ref xPik, .int 0, .ref xHan, .ref xIns, .ref xShr, .ref xSta, .ref xTur])), (xBag, .inr (1, [.ref bC, .ref bS, .ref bX, .ref bW, .ref bP, .int 0])), (xSum, .inr (8, [.ref sM, .ref sP, .ref sA, .int 0]))]) (w1 := []) hP hD [] [0, 1, 2] rfl rfl (by decide) (by decide) hk1 hFc hP1 hD1
  generalize H1 = H at hP hS ⊢
  have hP : va_P (dC, dI) vwCl [(x0, .inr (10, [.ref xTape, .ref xReader, .ref xBag, .ref xBld, .ref xAng, .ref xSum, .ref xPik, .int 0, .ref xHan, .ref xIns, .ref xShr, .ref xSta, .ref xTur])), (xBag, .inr (1, [.ref bC, .ref bS, .ref bX, .ref bW, .ref bP, .int 0])), (xSum, .inr (8, [.ref sM, .ref sP, .ref sA, .int 0]))] H := hP
  have hD : va_D A [(x0, .inr (10, [.ref xTape, .ref xReader, .ref xBag, .ref xBld, .ref xAng, .ref xSum, .ref xPik, .int 0, .ref xHan, .ref xIns, .ref xShr, .ref xSta, .ref xTur])), (xBag, .inr (1, [.ref bC, .ref bS, .ref bX, .ref bW, .ref bP, .int 0])), (xSum, .inr (8, [.ref sM, .ref sP, .ref sA, .int 0]))] := hD
  rcases hw with ⟨rfl, k_2⟩ | ⟨rfl, k_2⟩
  · refine lv_if_eq (tgt := 14) hx hb dX10_alike_4 (by decide) (fun _ => ?_) (fun c => absurd (by decide) c)
    refine lv_iconst (v := (-1)) hx hb dX10_alike_14 (by decide) ?_
    refine W.widen (k := 0) (n := 0) (Nat.le_of_ble_eq_true rfl) (Nat.le_of_ble_eq_true rfl) ?_
    exact W.iret (v := (-1)) hx hb hr (fun t ht hW => ⟨⟨(-1), (), rfl, (by (try simp only [nk_lt, nk_le, nk_eq, nk_wd, nk_c0, nk_c1, nk_c2, nk_c3, nk_c4, nk_c5, nk_c6, nk_c15, nk_c16, nk_c24, nk_c47, nk_c48, nk_c600, nk_c1728, nk_m1, nk_l0, nk_l1, nk_l2, nk_l3, nk_l5, nk_l15, nk_l24, nk_l47] at k_2); (unfold sp_two; first | rfl | decide | (rw [if_pos (by first | omega | (simp only [nk_lt, nk_le, nk_eq, nk_wd, nk_c0, nk_c1, nk_c2, nk_c3, nk_c4, nk_c5, nk_c6, nk_c15, nk_c16, nk_c24, nk_c47, nk_c48, nk_c600, nk_c1728, nk_m1, nk_l0, nk_l1, nk_l2, nk_l3, nk_l5, nk_l15, nk_l24, nk_l47]; omega) | (simp only [nk_lt, nk_le, nk_eq, nk_wd, nk_c0, nk_c1, nk_c2, nk_c3, nk_c4, nk_c5, nk_c6, nk_c15, nk_c16, nk_c24, nk_c47, nk_c48, nk_c600, nk_c1728, nk_m1, nk_l0, nk_l1, nk_l2, nk_l3, nk_l5, nk_l15, nk_l24, nk_l47]; done))]) | (rw [if_neg (by first | omega | (simp only [nk_lt, nk_le, nk_eq, nk_wd, nk_c0, nk_c1, nk_c2, nk_c3, nk_c4, nk_c5, nk_c6, nk_c15, nk_c16, nk_c24, nk_c47, nk_c48, nk_c600, nk_c1728, nk_m1, nk_l0, nk_l1, nk_l2, nk_l3, nk_l5, nk_l15, nk_l24, nk_l47]; omega) | (simp only [nk_lt, nk_le, nk_eq, nk_wd, nk_c0, nk_c1, nk_c2, nk_c3, nk_c4, nk_c5, nk_c6, nk_c15, nk_c16, nk_c24, nk_c47, nk_c48, nk_c600, nk_c1728, nk_m1, nk_l0, nk_l1, nk_l2, nk_l3, nk_l5, nk_l15, nk_l24, nk_l47]; done))]))), trivial⟩, hS.F ht⟩) hS.2.2 dX10_alike_15
  · refine lv_if_eq (tgt := 14) hx hb dX10_alike_4 (by decide) (fun c => absurd c (by decide)) (fun _ => ?_)
    refine lv_iload_n hx hb dX10_alike_7 rfl (lv_at hl 2 rfl) ?_
    have hPc := hP.sub (ws' := []) [] rfl
    have hDc := hD.sub (ws' := []) [] (by decide) rfl
    have hFc := va_free (wc := []) hD hS hA [] rfl
    refine va_calli (va_runS (As := [.int p1]) (rest := []) ⟨hx, hb, hml, hown, hts⟩ (c_X10_isSolid l dC dI cB cI cJ H.size p1) (va_cwS 1 hts gX10_alike_X10_isSolid rfl rfl rfl (by decide +kernel) ⟨Nat.le_of_ble_eq_true rfl, Nat.le_of_ble_eq_true rfl⟩) ⟨fun a U g mk q => by obtain ⟨q0, q1, qP, qK, qD⟩ := q; exact ⟨q0, q1, qP, va_K.moved (u := U) (U := U.calling g mk a) (Vm.Alike.refl U.vm) qK, qD⟩, fun U hU hW => ⟨rfl, by rw [hU], by rw [hU]; exact hPc, va_K.moved hW.alike hK, hDc.weaken (fun _ _ _ _ => trivial)⟩⟩ rfl rfl hl.1 rfl (lv_room (Nat.le_of_ble_eq_true rfl)) dX10_alike_8 ⟨Nat.le_of_ble_eq_true rfl, Nat.le_of_ble_eq_true rfl⟩) hS (fun q _ h => hFc q h) hFc (fun r_3 u t H1 locs ht hvm hw hB hz1 hk1 hS => ?_)
    have hP1 : va_P (dC, dI) vwCl [] H1 := fun k q h => by simp at h
    have hD1 : va_D (va_A [] H.size) [] := ⟨fun i j p q h => by simp at h, fun k q h => by simp at h⟩
    obtain ⟨hP, hD⟩ := va_join (wr := [(x0, .inr (10, [.ref xTape, .ref xReader, .ref xBag, .ref xBld, .ref xAng, .ref xSum, .ref xPik, .int 0, .ref xHan, .ref xIns, .ref xShr, .ref xSta, .ref xTur])), (xBag, .inr (1, [.ref bC, .ref bS, .ref bX, .ref bW, .ref bP, .int 0])), (xSum, .inr (8, [.ref sM, .ref sP, .ref sA, .int 0]))]) (w1 := []) hP hD [] [0, 1, 2] rfl rfl (by decide) (by decide) hk1 hFc hP1 hD1
    generalize H1 = H at hP hS ⊢
    have hP : va_P (dC, dI) vwCl [(x0, .inr (10, [.ref xTape, .ref xReader, .ref xBag, .ref xBld, .ref xAng, .ref xSum, .ref xPik, .int 0, .ref xHan, .ref xIns, .ref xShr, .ref xSta, .ref xTur])), (xBag, .inr (1, [.ref bC, .ref bS, .ref bX, .ref bW, .ref bP, .int 0])), (xSum, .inr (8, [.ref sM, .ref sP, .ref sA, .int 0]))] H := hP
    have hD : va_D A [(x0, .inr (10, [.ref xTape, .ref xReader, .ref xBag, .ref xBld, .ref xAng, .ref xSum, .ref xPik, .int 0, .ref xHan, .ref xIns, .ref xShr, .ref xSta, .ref xTur])), (xBag, .inr (1, [.ref bC, .ref bS, .ref bX, .ref bW, .ref bP, .int 0])), (xSum, .inr (8, [.ref sM, .ref sP, .ref sA, .int 0]))] := hD
    rcases hw with ⟨rfl, k_4⟩ | ⟨rfl, k_4⟩
    · refine lv_if_ne (tgt := 16) hx hb dX10_alike_11 (by decide) (fun c => absurd (by decide) c) (fun _ => ?_)
      refine lv_iconst (v := (-1)) hx hb dX10_alike_14 (by decide) ?_
      refine W.widen (k := 0) (n := 0) (Nat.le_of_ble_eq_true rfl) (Nat.le_of_ble_eq_true rfl) ?_
      exact W.iret (v := (-1)) hx hb hr (fun t ht hW => ⟨⟨(-1), (), rfl, (by (try simp only [nk_lt, nk_le, nk_eq, nk_wd, nk_c0, nk_c1, nk_c2, nk_c3, nk_c4, nk_c5, nk_c6, nk_c15, nk_c16, nk_c24, nk_c47, nk_c48, nk_c600, nk_c1728, nk_m1, nk_l0, nk_l1, nk_l2, nk_l3, nk_l5, nk_l15, nk_l24, nk_l47] at k_2 k_4); (unfold sp_two; first | rfl | decide | (rw [if_pos (by first | omega | (simp only [nk_lt, nk_le, nk_eq, nk_wd, nk_c0, nk_c1, nk_c2, nk_c3, nk_c4, nk_c5, nk_c6, nk_c15, nk_c16, nk_c24, nk_c47, nk_c48, nk_c600, nk_c1728, nk_m1, nk_l0, nk_l1, nk_l2, nk_l3, nk_l5, nk_l15, nk_l24, nk_l47]; omega) | (simp only [nk_lt, nk_le, nk_eq, nk_wd, nk_c0, nk_c1, nk_c2, nk_c3, nk_c4, nk_c5, nk_c6, nk_c15, nk_c16, nk_c24, nk_c47, nk_c48, nk_c600, nk_c1728, nk_m1, nk_l0, nk_l1, nk_l2, nk_l3, nk_l5, nk_l15, nk_l24, nk_l47]; done))]) | (rw [if_neg (by first | omega | (simp only [nk_lt, nk_le, nk_eq, nk_wd, nk_c0, nk_c1, nk_c2, nk_c3, nk_c4, nk_c5, nk_c6, nk_c15, nk_c16, nk_c24, nk_c47, nk_c48, nk_c600, nk_c1728, nk_m1, nk_l0, nk_l1, nk_l2, nk_l3, nk_l5, nk_l15, nk_l24, nk_l47]; omega) | (simp only [nk_lt, nk_le, nk_eq, nk_wd, nk_c0, nk_c1, nk_c2, nk_c3, nk_c4, nk_c5, nk_c6, nk_c15, nk_c16, nk_c24, nk_c47, nk_c48, nk_c600, nk_c1728, nk_m1, nk_l0, nk_l1, nk_l2, nk_l3, nk_l5, nk_l15, nk_l24, nk_l47]; done))]))), trivial⟩, hS.F ht⟩) hS.2.2 dX10_alike_15
    · refine lv_if_ne (tgt := 16) hx hb dX10_alike_11 (by decide) (fun _ => ?_) (fun c => absurd c (by decide))
      refine lv_aload_n hx hb dX10_alike_16 rfl (lv_at hl 0 rfl) ?_
      refine va_get (D := (dC, dI)) (ci := 10) (v := .ref xBag) (C := RX10) (T := TX10) (N := 13) hx hb hts hiX10 hown hK hP 0 rfl rfl 2 (by decide) (hts (.fieldLink RX10 28 "ScissorsTable" "bag" "LScissorsTable$Bag;") (by decide +kernel)) (fun _ h9 => h9) rfl dX10_alike_17 ?_
      refine lv_iload_n hx hb dX10_alike_20 rfl (lv_at hl 1 rfl) ?_
      have hPc := hP.sub (ws' := [(xBag, .inr (1, [.ref bC, .ref bS, .ref bX, .ref bW, .ref bP, .int 0]))]) [1] rfl
      have hDc := hD.sub (ws' := [(xBag, .inr (1, [.ref bC, .ref bS, .ref bX, .ref bW, .ref bP, .int 0]))]) [1] (by decide) rfl
      have hFc := va_free (wc := [(xBag, .inr (1, [.ref bC, .ref bS, .ref bX, .ref bW, .ref bP, .int 0]))]) hD hS hA [1] rfl
      refine va_calli (va_runV (As := [.int p0]) (rest := []) ⟨hx, hb, hml, hown, hts⟩ (c_X1_sixOfSolid l dC dI cB cI cJ H.size xBag bC bS bX bW bP p0) (cwV 1 hts gX10_alike_X1_sixOfSolid rfl rfl rfl (by decide +kernel) ⟨Nat.le_of_ble_eq_true rfl, Nat.le_of_ble_eq_true rfl⟩) ⟨fun a U g mk q => by obtain ⟨q0, q1, qP, qK, qD⟩ := q; exact ⟨q0, q1, qP, va_K.moved (u := U) (U := U.calling g mk a) (Vm.Alike.refl U.vm) qK, qD⟩, va_recv hK hP (ci := 1) (q0 := 1) rfl rfl, fun U hU hW => ⟨rfl, by rw [hU], by rw [hU]; exact hPc, va_K.moved hW.alike hK, hDc.weaken (fun _ _ _ _ => trivial)⟩⟩ rfl rfl hl.1 rfl (lv_room (Nat.le_of_ble_eq_true rfl)) dX10_alike_21 ⟨Nat.le_of_ble_eq_true rfl, Nat.le_of_ble_eq_true rfl⟩) hS (fun q _ h => hFc q h) hFc (fun r_5 u t H1 locs ht hvm hw hB hz1 hk1 hS => ?_)
      obtain ⟨hP1, hK1, hD1⟩ := hB
      rw [ht] at hP1
      obtain ⟨hP, hD⟩ := va_join (wr := [(x0, .inr (10, [.ref xTape, .ref xReader, .ref xBag, .ref xBld, .ref xAng, .ref xSum, .ref xPik, .int 0, .ref xHan, .ref xIns, .ref xShr, .ref xSta, .ref xTur])), (xSum, .inr (8, [.ref sM, .ref sP, .ref sA, .int 0]))]) (w1 := [(xBag, .inr (1, [.ref bC, .ref bS, .ref bX, .ref bW, .ref bP, .int 0]))]) hP hD [1] [0, 2] rfl rfl (by decide) (by decide) hk1 hFc hP1 hD1
      generalize H1 = H at hP hS ⊢
      have hP : va_P (dC, dI) vwCl [(x0, .inr (10, [.ref xTape, .ref xReader, .ref xBag, .ref xBld, .ref xAng, .ref xSum, .ref xPik, .int 0, .ref xHan, .ref xIns, .ref xShr, .ref xSta, .ref xTur])), (xSum, .inr (8, [.ref sM, .ref sP, .ref sA, .int 0])), (xBag, .inr (1, [.ref bC, .ref bS, .ref bX, .ref bW, .ref bP, .int 0]))] H := hP
      have hD : va_D A [(x0, .inr (10, [.ref xTape, .ref xReader, .ref xBag, .ref xBld, .ref xAng, .ref xSum, .ref xPik, .int 0, .ref xHan, .ref xIns, .ref xShr, .ref xSta, .ref xTur])), (xSum, .inr (8, [.ref sM, .ref sP, .ref sA, .int 0])), (xBag, .inr (1, [.ref bC, .ref bS, .ref bX, .ref bW, .ref bP, .int 0]))] := hD
      have hr_5 := hw
      obtain rfl : r_5 = 0 := hr_5
      refine lv_aload_n hx hb dX10_alike_24 rfl (lv_at hl 0 rfl) ?_
      refine va_get (D := (dC, dI)) (ci := 10) (v := .ref xBag) (C := RX10) (T := TX10) (N := 13) hx hb hts hiX10 hown hK hP 0 rfl rfl 2 (by decide) (hts (.fieldLink RX10 28 "ScissorsTable" "bag" "LScissorsTable$Bag;") (by decide +kernel)) (fun _ h9 => h9) rfl dX10_alike_25 ?_
      refine lv_iload_n hx hb dX10_alike_28 rfl (lv_at hl 2 rfl) ?_
      have hPc := hP.sub (ws' := [(xBag, .inr (1, [.ref bC, .ref bS, .ref bX, .ref bW, .ref bP, .int 0]))]) [2] rfl
      have hDc := hD.sub (ws' := [(xBag, .inr (1, [.ref bC, .ref bS, .ref bX, .ref bW, .ref bP, .int 0]))]) [2] (by decide) rfl
      have hFc := va_free (wc := [(xBag, .inr (1, [.ref bC, .ref bS, .ref bX, .ref bW, .ref bP, .int 0]))]) hD hS hA [2] rfl
      refine va_calli (va_runV (As := [.int p1]) (rest := [.int 0]) ⟨hx, hb, hml, hown, hts⟩ (c_X1_sixOfSolid l dC dI cB cI cJ H.size xBag bC bS bX bW bP p1) (cwV 1 hts gX10_alike_X1_sixOfSolid rfl rfl rfl (by decide +kernel) ⟨Nat.le_of_ble_eq_true rfl, Nat.le_of_ble_eq_true rfl⟩) ⟨fun a U g mk q => by obtain ⟨q0, q1, qP, qK, qD⟩ := q; exact ⟨q0, q1, qP, va_K.moved (u := U) (U := U.calling g mk a) (Vm.Alike.refl U.vm) qK, qD⟩, va_recv hK hP (ci := 1) (q0 := 2) rfl rfl, fun U hU hW => ⟨rfl, by rw [hU], by rw [hU]; exact hPc, va_K.moved hW.alike hK, hDc.weaken (fun _ _ _ _ => trivial)⟩⟩ rfl rfl hl.1 rfl (lv_room (Nat.le_of_ble_eq_true rfl)) dX10_alike_29 ⟨Nat.le_of_ble_eq_true rfl, Nat.le_of_ble_eq_true rfl⟩) hS (fun q _ h => hFc q h) hFc (fun r_6 u t H1 locs ht hvm hw hB hz1 hk1 hS => ?_)
      obtain ⟨hP1, hK1, hD1⟩ := hB
      rw [ht] at hP1
      obtain ⟨hP, hD⟩ := va_join (wr := [(x0, .inr (10, [.ref xTape, .ref xReader, .ref xBag, .ref xBld, .ref xAng, .ref xSum, .ref xPik, .int 0, .ref xHan, .ref xIns, .ref xShr, .ref xSta, .ref xTur])), (xSum, .inr (8, [.ref sM, .ref sP, .ref sA, .int 0]))]) (w1 := [(xBag, .inr (1, [.ref bC, .ref bS, .ref bX, .ref bW, .ref bP, .int 0]))]) hP hD [2] [0, 1] rfl rfl (by decide) (by decide) hk1 hFc hP1 hD1
      generalize H1 = H at hP hS ⊢
      have hP : va_P (dC, dI) vwCl [(x0, .inr (10, [.ref xTape, .ref xReader, .ref xBag, .ref xBld, .ref xAng, .ref xSum, .ref xPik, .int 0, .ref xHan, .ref xIns, .ref xShr, .ref xSta, .ref xTur])), (xSum, .inr (8, [.ref sM, .ref sP, .ref sA, .int 0])), (xBag, .inr (1, [.ref bC, .ref bS, .ref bX, .ref bW, .ref bP, .int 0]))] H := hP
      have hD : va_D A [(x0, .inr (10, [.ref xTape, .ref xReader, .ref xBag, .ref xBld, .ref xAng, .ref xSum, .ref xPik, .int 0, .ref xHan, .ref xIns, .ref xShr, .ref xSta, .ref xTur])), (xSum, .inr (8, [.ref sM, .ref sP, .ref sA, .int 0])), (xBag, .inr (1, [.ref bC, .ref bS, .ref bX, .ref bW, .ref bP, .int 0]))] := hD
      have hr_6 := hw
      obtain rfl : r_6 = 0 := hr_6
      refine lv_icmp_eq (tgt := 37) hx hb dX10_alike_32 (by decide) (fun _ => ?_) (fun c => absurd (by decide) c)
      refine lv_aload_n hx hb dX10_alike_37 rfl (lv_at hl 0 rfl) ?_
      refine va_get (D := (dC, dI)) (ci := 10) (v := .ref xSum) (C := RX10) (T := TX10) (N := 13) hx hb hts hiX10 hown hK hP 0 rfl rfl 5 (by decide) (hts (.fieldLink RX10 51 "ScissorsTable" "sums" "LScissorsTable$Sums;") (by decide +kernel)) (fun _ h9 => h9) rfl dX10_alike_38 ?_
      refine lv_iload_n hx hb dX10_alike_41 rfl (lv_at hl 1 rfl) ?_
      refine lv_iload_n hx hb dX10_alike_42 rfl (lv_at hl 2 rfl) ?_
      have hPc := hP.sub (ws' := [(xSum, .inr (8, [.ref sM, .ref sP, .ref sA, .int 0]))]) [1] rfl
      have hDc := hD.sub (ws' := [(xSum, .inr (8, [.ref sM, .ref sP, .ref sA, .int 0]))]) [1] (by decide) rfl
      have hFc := va_free (wc := [(xSum, .inr (8, [.ref sM, .ref sP, .ref sA, .int 0]))]) hD hS hA [1] rfl
      refine va_calli (va_runV (As := [.int p0, .int p1]) (rest := []) ⟨hx, hb, hml, hown, hts⟩ (c_X8_firstUnlike l dC dI cB cI cJ H.size xSum sM sP sA p0 p1) (cwV 2 hts gX10_alike_X8_firstUnlike rfl rfl rfl (by decide +kernel) ⟨Nat.le_of_ble_eq_true rfl, Nat.le_of_ble_eq_true rfl⟩) ⟨fun a U g mk q => by obtain ⟨q0, q1, qP, qK, qD⟩ := q; exact ⟨q0, q1, qP, va_K.moved (u := U) (U := U.calling g mk a) (Vm.Alike.refl U.vm) qK, qD⟩, va_recv hK hP (ci := 8) (q0 := 1) rfl rfl, fun U hU hW => ⟨rfl, by rw [hU], by rw [hU]; exact hPc, va_K.moved hW.alike hK, hDc.weaken (fun _ _ _ _ => trivial)⟩⟩ rfl rfl hl.1 rfl (lv_room (Nat.le_of_ble_eq_true rfl)) dX10_alike_43 ⟨Nat.le_of_ble_eq_true rfl, Nat.le_of_ble_eq_true rfl⟩) hS (fun q _ h => hFc q h) hFc (fun r_7 u t H1 locs ht hvm hw hB hz1 hk1 hS => ?_)
      obtain ⟨hP1, hK1, hD1⟩ := hB
      rw [ht] at hP1
      obtain ⟨hP, hD⟩ := va_join (wr := [(x0, .inr (10, [.ref xTape, .ref xReader, .ref xBag, .ref xBld, .ref xAng, .ref xSum, .ref xPik, .int 0, .ref xHan, .ref xIns, .ref xShr, .ref xSta, .ref xTur])), (xBag, .inr (1, [.ref bC, .ref bS, .ref bX, .ref bW, .ref bP, .int 0]))]) (w1 := [(xSum, .inr (8, [.ref sM, .ref sP, .ref sA, .int 0]))]) hP hD [1] [0, 2] rfl rfl (by decide) (by decide) hk1 hFc hP1 hD1
      generalize H1 = H at hP hS ⊢
      have hP : va_P (dC, dI) vwCl [(x0, .inr (10, [.ref xTape, .ref xReader, .ref xBag, .ref xBld, .ref xAng, .ref xSum, .ref xPik, .int 0, .ref xHan, .ref xIns, .ref xShr, .ref xSta, .ref xTur])), (xBag, .inr (1, [.ref bC, .ref bS, .ref bX, .ref bW, .ref bP, .int 0])), (xSum, .inr (8, [.ref sM, .ref sP, .ref sA, .int 0]))] H := hP
      have hD : va_D A [(x0, .inr (10, [.ref xTape, .ref xReader, .ref xBag, .ref xBld, .ref xAng, .ref xSum, .ref xPik, .int 0, .ref xHan, .ref xIns, .ref xShr, .ref xSta, .ref xTur])), (xBag, .inr (1, [.ref bC, .ref bS, .ref bX, .ref bW, .ref bP, .int 0])), (xSum, .inr (8, [.ref sM, .ref sP, .ref sA, .int 0]))] := hD
      have hr_7 := hw
      obtain rfl : r_7 = (-1) := hr_7
      refine lv_if_ge (tgt := 53) hx hb dX10_alike_46 (by decide) (fun c => absurd c (by decide)) (fun _ => ?_)
      refine lv_iconst (v := 0) hx hb dX10_alike_49 (by decide) ?_
      refine lv_goto (tgt := 54) hx hb dX10_alike_50 (by decide) ?_
      refine W.widen (k := 0) (n := 0) (Nat.le_of_ble_eq_true rfl) (Nat.le_of_ble_eq_true rfl) ?_
      exact W.iret (v := 0) hx hb hr (fun t ht hW => ⟨⟨0, (), rfl, (by (try simp only [nk_lt, nk_le, nk_eq, nk_wd, nk_c0, nk_c1, nk_c2, nk_c3, nk_c4, nk_c5, nk_c6, nk_c15, nk_c16, nk_c24, nk_c47, nk_c48, nk_c600, nk_c1728, nk_m1, nk_l0, nk_l1, nk_l2, nk_l3, nk_l5, nk_l15, nk_l24, nk_l47] at k_2 k_4); (unfold sp_two; first | rfl | decide | (rw [if_pos (by first | omega | (simp only [nk_lt, nk_le, nk_eq, nk_wd, nk_c0, nk_c1, nk_c2, nk_c3, nk_c4, nk_c5, nk_c6, nk_c15, nk_c16, nk_c24, nk_c47, nk_c48, nk_c600, nk_c1728, nk_m1, nk_l0, nk_l1, nk_l2, nk_l3, nk_l5, nk_l15, nk_l24, nk_l47]; omega) | (simp only [nk_lt, nk_le, nk_eq, nk_wd, nk_c0, nk_c1, nk_c2, nk_c3, nk_c4, nk_c5, nk_c6, nk_c15, nk_c16, nk_c24, nk_c47, nk_c48, nk_c600, nk_c1728, nk_m1, nk_l0, nk_l1, nk_l2, nk_l3, nk_l5, nk_l15, nk_l24, nk_l47]; done))]) | (rw [if_neg (by first | omega | (simp only [nk_lt, nk_le, nk_eq, nk_wd, nk_c0, nk_c1, nk_c2, nk_c3, nk_c4, nk_c5, nk_c6, nk_c15, nk_c16, nk_c24, nk_c47, nk_c48, nk_c600, nk_c1728, nk_m1, nk_l0, nk_l1, nk_l2, nk_l3, nk_l5, nk_l15, nk_l24, nk_l47]; omega) | (simp only [nk_lt, nk_le, nk_eq, nk_wd, nk_c0, nk_c1, nk_c2, nk_c3, nk_c4, nk_c5, nk_c6, nk_c15, nk_c16, nk_c24, nk_c47, nk_c48, nk_c600, nk_c1728, nk_m1, nk_l0, nk_l1, nk_l2, nk_l3, nk_l5, nk_l15, nk_l24, nk_l47]; done))]))), trivial⟩, hS.F ht⟩) hS.2.2 dX10_alike_54
set_option maxHeartbeats 4000000 in
set_option maxRecDepth 100000 in
theorem c_X10_unlike (l : Launch) (dC : Nat → ClassId) (dI : Nat → Nat → Nat) (cB cI cJ : ClassId) (sz : Nat) (x0 xTape xReader xBag xBld xAng xSum xPik xHan xIns xShr xSta xTur sM sP sA : Nat) (p0 p1 p2 : Int32) : Met l yX10_unlike wsX10_unlike ({ frames := 2, cells := 0, slots := 0, locals := 47 }) (va_Pc [.ref x0, .int p0, .int p1, .int p2] (fun U => U.heap.size = sz ∧ va_P (dC, dI) vwCl [(x0, .inr (10, [.ref xTape, .ref xReader, .ref xBag, .ref xBld, .ref xAng, .ref xSum, .ref xPik, .int 0, .ref xHan, .ref xIns, .ref xShr, .ref xSta, .ref xTur])), (xSum, .inr (8, [.ref sM, .ref sP, .ref sA, .int 0]))] U.heap ∧ va_K (dC, dI) vwCl [(cB, .byte), (cI, .int), (cJ, .long)] U ∧ va_D (fun _ => True) [(x0, .inr (10, [.ref xTape, .ref xReader, .ref xBag, .ref xBld, .ref xAng, .ref xSum, .ref xPik, .int 0, .ref xHan, .ref xIns, .ref xShr, .ref xSta, .ref xTur])), (xSum, .inr (8, [.ref sM, .ref sP, .ref sA, .int 0]))])) (va_Qi (fun (r : Int32) (_ : Unit) => r = (-1000000)) (fun _ _ => True) (va_A [(x0, .inr (10, [.ref xTape, .ref xReader, .ref xBag, .ref xBld, .ref xAng, .ref xSum, .ref xPik, .int 0, .ref xHan, .ref xIns, .ref xShr, .ref xSta, .ref xTur])), (xSum, .inr (8, [.ref sM, .ref sP, .ref sA, .int 0]))] sz)) 0 0 (va_A [(x0, .inr (10, [.ref xTape, .ref xReader, .ref xBag, .ref xBld, .ref xAng, .ref xSum, .ref xPik, .int 0, .ref xHan, .ref xIns, .ref xShr, .ref xSta, .ref xTur])), (xSum, .inr (8, [.ref sM, .ref sP, .ref sA, .int 0]))] sz) := by
  refine Met.ofW (cc := cX10_unlike) (maxL := 5) (ret := (some .int)) (by decide) rfl ?_
  intro p e s m args below meth c s₁ B hml hv
  obtain ⟨rfl, hsz, hP, hK, hD0⟩ := hv
  have hx := B.exec
  have hb := B.bytes
  have hr := B.returns
  have hts := atoms_spec (ws := wsX10_unlike) B.pre
  have hown : s.vm.findClass RX10 = some m.cls := findClass_of_methodNamed B.named
  have hlocks := B.notSynchronized
  have hiX10 : ∀ w ∈ u_ws RX10 TX10 13, w ∈ wsX10_unlike := by decide +kernel
  subst hsz
  have hD := hD0.self (sz := s.heap.size)
  generalize hAe : va_A [(x0, .inr (10, [.ref xTape, .ref xReader, .ref xBag, .ref xBld, .ref xAng, .ref xSum, .ref xPik, .int 0, .ref xHan, .ref xIns, .ref xShr, .ref xSta, .ref xTur])), (xSum, .inr (8, [.ref sM, .ref sP, .ref sA, .int 0]))] s.heap.size = A at hD ⊢
  have hA : ∀ q : Nat, s.heap.size ≤ q → A q := fun q h => by rw [← hAe]; exact Or.inr h
  have hS : va_S A s.heap s.heap [] := va_S.rf
  have hP : va_P (dC, dI) vwCl [(x0, .inr (10, [.ref xTape, .ref xReader, .ref xBag, .ref xBld, .ref xAng, .ref xSum, .ref xPik, .int 0, .ref xHan, .ref xIns, .ref xShr, .ref xSta, .ref xTur])), (xSum, .inr (8, [.ref sM, .ref sP, .ref sA, .int 0]))] s.heap := hP
  have hl := lv_entry ([.ref x0, .int p0, .int p1, .int p2]) (n := 5) (Nat.le_of_ble_eq_true rfl)
  rw [lg_entry_eq]
  generalize (lg_sl ([.ref x0, .int p0, .int p1, .int p2]) ++ List.replicate (5 - (lg_sl ([.ref x0, .int p0, .int p1, .int p2])).length) Slot.unset).toArray = ls at hl ⊢
  have hl : lv_has ls 5 [(0, .ref x0), (1, .int p0), (2, .int p1), (3, .int p2)] := hl
  refine lv_iload_n hx hb dX10_unlike_0 rfl (lv_at hl 1 rfl) ?_
  have hPc := hP.sub (ws' := []) [] rfl
  have hDc := hD.sub (ws' := []) [] (by decide) rfl
  have hFc := va_free (wc := []) hD hS hA [] rfl
  refine va_calli (va_runS (As := [.int p0]) (rest := []) ⟨hx, hb, hml, hown, hts⟩ (c_X10_isSolid l dC dI cB cI cJ s.heap.size p0) (va_cwS 1 hts gX10_unlike_X10_isSolid rfl rfl rfl (by decide +kernel) ⟨Nat.le_of_ble_eq_true rfl, Nat.le_of_ble_eq_true rfl⟩) ⟨fun a U g mk q => by obtain ⟨q0, q1, qP, qK, qD⟩ := q; exact ⟨q0, q1, qP, va_K.moved (u := U) (U := U.calling g mk a) (Vm.Alike.refl U.vm) qK, qD⟩, fun U hU hW => ⟨rfl, by rw [hU], by rw [hU]; exact hPc, va_K.moved hW.alike hK, hDc.weaken (fun _ _ _ _ => trivial)⟩⟩ rfl rfl hl.1 rfl (lv_room (Nat.le_of_ble_eq_true rfl)) dX10_unlike_1 ⟨Nat.le_of_ble_eq_true rfl, Nat.le_of_ble_eq_true rfl⟩) hS (fun q _ h => hFc q h) hFc (fun r_1 u t H1 locs ht hvm hw hB hz1 hk1 hS => ?_)
  have hP1 : va_P (dC, dI) vwCl [] H1 := fun k q h => by simp at h
  have hD1 : va_D (va_A [] s.heap.size) [] := ⟨fun i j p q h => by simp at h, fun k q h => by simp at h⟩
  obtain ⟨hP, hD⟩ := va_join (wr := [(x0, .inr (10, [.ref xTape, .ref xReader, .ref xBag, .ref xBld, .ref xAng, .ref xSum, .ref xPik, .int 0, .ref xHan, .ref xIns, .ref xShr, .ref xSta, .ref xTur])), (xSum, .inr (8, [.ref sM, .ref sP, .ref sA, .int 0]))]) (w1 := []) hP hD [] [0, 1] rfl rfl (by decide) (by decide) hk1 hFc hP1 hD1
  generalize H1 = H at hP hS ⊢
  have hP : va_P (dC, dI) vwCl [(x0, .inr (10, [.ref xTape, .ref xReader, .ref xBag, .ref xBld, .ref xAng, .ref xSum, .ref xPik, .int 0, .ref xHan, .ref xIns, .ref xShr, .ref xSta, .ref xTur])), (xSum, .inr (8, [.ref sM, .ref sP, .ref sA, .int 0]))] H := hP
  have hD : va_D A [(x0, .inr (10, [.ref xTape, .ref xReader, .ref xBag, .ref xBld, .ref xAng, .ref xSum, .ref xPik, .int 0, .ref xHan, .ref xIns, .ref xShr, .ref xSta, .ref xTur])), (xSum, .inr (8, [.ref sM, .ref sP, .ref sA, .int 0]))] := hD
  rcases hw with ⟨rfl, k_2⟩ | ⟨rfl, k_2⟩
  · refine lv_if_eq (tgt := 14) hx hb dX10_unlike_4 (by decide) (fun _ => ?_) (fun c => absurd (by decide) c)
    refine lv_ldc (v := (-1000000)) hx hb hown (hts (.constant RX10 140 (-1000000)) (by decide +kernel)) dX10_unlike_14 ?_
    refine W.widen (k := 0) (n := 0) (Nat.le_of_ble_eq_true rfl) (Nat.le_of_ble_eq_true rfl) ?_
    exact W.iret (v := (-1000000)) hx hb hr (fun t ht hW => ⟨⟨(-1000000), (), rfl, rfl, trivial⟩, hS.F ht⟩) hS.2.2 dX10_unlike_16
  · refine lv_if_eq (tgt := 14) hx hb dX10_unlike_4 (by decide) (fun c => absurd c (by decide)) (fun _ => ?_)
    refine lv_iload_n hx hb dX10_unlike_7 rfl (lv_at hl 2 rfl) ?_
    have hPc := hP.sub (ws' := []) [] rfl
    have hDc := hD.sub (ws' := []) [] (by decide) rfl
    have hFc := va_free (wc := []) hD hS hA [] rfl
    refine va_calli (va_runS (As := [.int p1]) (rest := []) ⟨hx, hb, hml, hown, hts⟩ (c_X10_isSolid l dC dI cB cI cJ H.size p1) (va_cwS 1 hts gX10_unlike_X10_isSolid rfl rfl rfl (by decide +kernel) ⟨Nat.le_of_ble_eq_true rfl, Nat.le_of_ble_eq_true rfl⟩) ⟨fun a U g mk q => by obtain ⟨q0, q1, qP, qK, qD⟩ := q; exact ⟨q0, q1, qP, va_K.moved (u := U) (U := U.calling g mk a) (Vm.Alike.refl U.vm) qK, qD⟩, fun U hU hW => ⟨rfl, by rw [hU], by rw [hU]; exact hPc, va_K.moved hW.alike hK, hDc.weaken (fun _ _ _ _ => trivial)⟩⟩ rfl rfl hl.1 rfl (lv_room (Nat.le_of_ble_eq_true rfl)) dX10_unlike_8 ⟨Nat.le_of_ble_eq_true rfl, Nat.le_of_ble_eq_true rfl⟩) hS (fun q _ h => hFc q h) hFc (fun r_3 u t H1 locs ht hvm hw hB hz1 hk1 hS => ?_)
    have hP1 : va_P (dC, dI) vwCl [] H1 := fun k q h => by simp at h
    have hD1 : va_D (va_A [] H.size) [] := ⟨fun i j p q h => by simp at h, fun k q h => by simp at h⟩
    obtain ⟨hP, hD⟩ := va_join (wr := [(x0, .inr (10, [.ref xTape, .ref xReader, .ref xBag, .ref xBld, .ref xAng, .ref xSum, .ref xPik, .int 0, .ref xHan, .ref xIns, .ref xShr, .ref xSta, .ref xTur])), (xSum, .inr (8, [.ref sM, .ref sP, .ref sA, .int 0]))]) (w1 := []) hP hD [] [0, 1] rfl rfl (by decide) (by decide) hk1 hFc hP1 hD1
    generalize H1 = H at hP hS ⊢
    have hP : va_P (dC, dI) vwCl [(x0, .inr (10, [.ref xTape, .ref xReader, .ref xBag, .ref xBld, .ref xAng, .ref xSum, .ref xPik, .int 0, .ref xHan, .ref xIns, .ref xShr, .ref xSta, .ref xTur])), (xSum, .inr (8, [.ref sM, .ref sP, .ref sA, .int 0]))] H := hP
    have hD : va_D A [(x0, .inr (10, [.ref xTape, .ref xReader, .ref xBag, .ref xBld, .ref xAng, .ref xSum, .ref xPik, .int 0, .ref xHan, .ref xIns, .ref xShr, .ref xSta, .ref xTur])), (xSum, .inr (8, [.ref sM, .ref sP, .ref sA, .int 0]))] := hD
    rcases hw with ⟨rfl, k_4⟩ | ⟨rfl, k_4⟩
    · refine lv_if_ne (tgt := 17) hx hb dX10_unlike_11 (by decide) (fun c => absurd (by decide) c) (fun _ => ?_)
      refine lv_ldc (v := (-1000000)) hx hb hown (hts (.constant RX10 140 (-1000000)) (by decide +kernel)) dX10_unlike_14 ?_
      refine W.widen (k := 0) (n := 0) (Nat.le_of_ble_eq_true rfl) (Nat.le_of_ble_eq_true rfl) ?_
      exact W.iret (v := (-1000000)) hx hb hr (fun t ht hW => ⟨⟨(-1000000), (), rfl, rfl, trivial⟩, hS.F ht⟩) hS.2.2 dX10_unlike_16
    · refine lv_if_ne (tgt := 17) hx hb dX10_unlike_11 (by decide) (fun _ => ?_) (fun c => absurd c (by decide))
      refine lv_aload_n hx hb dX10_unlike_17 rfl (lv_at hl 0 rfl) ?_
      refine va_get (D := (dC, dI)) (ci := 10) (v := .ref xSum) (C := RX10) (T := TX10) (N := 13) hx hb hts hiX10 hown hK hP 0 rfl rfl 5 (by decide) (hts (.fieldLink RX10 51 "ScissorsTable" "sums" "LScissorsTable$Sums;") (by decide +kernel)) (fun _ h9 => h9) rfl dX10_unlike_18 ?_
      refine lv_iload_n hx hb dX10_unlike_21 rfl (lv_at hl 1 rfl) ?_
      refine lv_iload_n hx hb dX10_unlike_22 rfl (lv_at hl 2 rfl) ?_
      have hPc := hP.sub (ws' := [(xSum, .inr (8, [.ref sM, .ref sP, .ref sA, .int 0]))]) [1] rfl
      have hDc := hD.sub (ws' := [(xSum, .inr (8, [.ref sM, .ref sP, .ref sA, .int 0]))]) [1] (by decide) rfl
      have hFc := va_free (wc := [(xSum, .inr (8, [.ref sM, .ref sP, .ref sA, .int 0]))]) hD hS hA [1] rfl
      refine va_calli (va_runV (As := [.int p0, .int p1]) (rest := []) ⟨hx, hb, hml, hown, hts⟩ (c_X8_firstUnlike l dC dI cB cI cJ H.size xSum sM sP sA p0 p1) (cwV 2 hts gX10_unlike_X8_firstUnlike rfl rfl rfl (by decide +kernel) ⟨Nat.le_of_ble_eq_true rfl, Nat.le_of_ble_eq_true rfl⟩) ⟨fun a U g mk q => by obtain ⟨q0, q1, qP, qK, qD⟩ := q; exact ⟨q0, q1, qP, va_K.moved (u := U) (U := U.calling g mk a) (Vm.Alike.refl U.vm) qK, qD⟩, va_recv hK hP (ci := 8) (q0 := 1) rfl rfl, fun U hU hW => ⟨rfl, by rw [hU], by rw [hU]; exact hPc, va_K.moved hW.alike hK, hDc.weaken (fun _ _ _ _ => trivial)⟩⟩ rfl rfl hl.1 rfl (lv_room (Nat.le_of_ble_eq_true rfl)) dX10_unlike_23 ⟨Nat.le_of_ble_eq_true rfl, Nat.le_of_ble_eq_true rfl⟩) hS (fun q _ h => hFc q h) hFc (fun r_5 u t H1 locs ht hvm hw hB hz1 hk1 hS => ?_)
      obtain ⟨hP1, hK1, hD1⟩ := hB
      rw [ht] at hP1
      obtain ⟨hP, hD⟩ := va_join (wr := [(x0, .inr (10, [.ref xTape, .ref xReader, .ref xBag, .ref xBld, .ref xAng, .ref xSum, .ref xPik, .int 0, .ref xHan, .ref xIns, .ref xShr, .ref xSta, .ref xTur]))]) (w1 := [(xSum, .inr (8, [.ref sM, .ref sP, .ref sA, .int 0]))]) hP hD [1] [0] rfl rfl (by decide) (by decide) hk1 hFc hP1 hD1
      generalize H1 = H at hP hS ⊢
      have hP : va_P (dC, dI) vwCl [(x0, .inr (10, [.ref xTape, .ref xReader, .ref xBag, .ref xBld, .ref xAng, .ref xSum, .ref xPik, .int 0, .ref xHan, .ref xIns, .ref xShr, .ref xSta, .ref xTur])), (xSum, .inr (8, [.ref sM, .ref sP, .ref sA, .int 0]))] H := hP
      have hD : va_D A [(x0, .inr (10, [.ref xTape, .ref xReader, .ref xBag, .ref xBld, .ref xAng, .ref xSum, .ref xPik, .int 0, .ref xHan, .ref xIns, .ref xShr, .ref xSta, .ref xTur])), (xSum, .inr (8, [.ref sM, .ref sP, .ref sA, .int 0]))] := hD
      have hr_5 := hw
      obtain rfl : r_5 = (-1) := hr_5
      refine lv_istore (lv' := [(4, .int (-1)), (0, .ref x0), (1, .int p0), (2, .int p1), (3, .int p2)]) hx hb dX10_unlike_26 hl (by decide) rfl (fun ls hl => ?_)
      refine lv_iload hx hb dX10_unlike_28 (lv_at hl 0 rfl) ?_
      refine lv_if_ge (tgt := 36) hx hb dX10_unlike_30 (by decide) (fun c => absurd c (by decide)) (fun _ => ?_)
      refine lv_ldc (v := (-1000000)) hx hb hown (hts (.constant RX10 140 (-1000000)) (by decide +kernel)) dX10_unlike_33 ?_
      refine W.widen (k := 0) (n := 0) (Nat.le_of_ble_eq_true rfl) (Nat.le_of_ble_eq_true rfl) ?_
      exact W.iret (v := (-1000000)) hx hb hr (fun t ht hW => ⟨⟨(-1000000), (), rfl, rfl, trivial⟩, hS.F ht⟩) hS.2.2 dX10_unlike_35
set_option maxHeartbeats 4000000 in
set_option maxRecDepth 100000 in
theorem c_X10_multiples (l : Launch) (dC : Nat → ClassId) (dI : Nat → Nat → Nat) (cB cI cJ : ClassId) (sz : Nat) (x0 xTape xReader xBag xBld xAng xSum xPik xHan xIns xShr xSta xTur sM sP sA : Nat) (p0 p1 p2 : Int32) : Met l yX10_multiples wsX10_multiples ({ frames := 2, cells := 0, slots := 0, locals := 48 }) (va_Pc [.ref x0, .int p0, .int p1, .int p2] (fun U => U.heap.size = sz ∧ va_P (dC, dI) vwCl [(x0, .inr (10, [.ref xTape, .ref xReader, .ref xBag, .ref xBld, .ref xAng, .ref xSum, .ref xPik, .int 0, .ref xHan, .ref xIns, .ref xShr, .ref xSta, .ref xTur])), (xSum, .inr (8, [.ref sM, .ref sP, .ref sA, .int 0]))] U.heap ∧ va_K (dC, dI) vwCl [(cB, .byte), (cI, .int), (cJ, .long)] U ∧ va_D (fun _ => True) [(x0, .inr (10, [.ref xTape, .ref xReader, .ref xBag, .ref xBld, .ref xAng, .ref xSum, .ref xPik, .int 0, .ref xHan, .ref xIns, .ref xShr, .ref xSta, .ref xTur])), (xSum, .inr (8, [.ref sM, .ref sP, .ref sA, .int 0]))])) (va_Ql (fun (r : Int64) (_ : Unit) => r = (-1000000)) (fun _ _ => True) (va_A [(x0, .inr (10, [.ref xTape, .ref xReader, .ref xBag, .ref xBld, .ref xAng, .ref xSum, .ref xPik, .int 0, .ref xHan, .ref xIns, .ref xShr, .ref xSta, .ref xTur])), (xSum, .inr (8, [.ref sM, .ref sP, .ref sA, .int 0]))] sz)) 0 0 (va_A [(x0, .inr (10, [.ref xTape, .ref xReader, .ref xBag, .ref xBld, .ref xAng, .ref xSum, .ref xPik, .int 0, .ref xHan, .ref xIns, .ref xShr, .ref xSta, .ref xTur])), (xSum, .inr (8, [.ref sM, .ref sP, .ref sA, .int 0]))] sz) := by
  refine Met.ofW (cc := cX10_multiples) (maxL := 15) (ret := (some .long)) (by decide) rfl ?_
  intro p e s m args below meth c s₁ B hml hv
  obtain ⟨rfl, hsz, hP, hK, hD0⟩ := hv
  have hx := B.exec
  have hb := B.bytes
  have hr := B.returns
  have hts := atoms_spec (ws := wsX10_multiples) B.pre
  have hown : s.vm.findClass RX10 = some m.cls := findClass_of_methodNamed B.named
  have hlocks := B.notSynchronized
  have hiX10 : ∀ w ∈ u_ws RX10 TX10 13, w ∈ wsX10_multiples := by decide +kernel
  subst hsz
  have hD := hD0.self (sz := s.heap.size)
  generalize hAe : va_A [(x0, .inr (10, [.ref xTape, .ref xReader, .ref xBag, .ref xBld, .ref xAng, .ref xSum, .ref xPik, .int 0, .ref xHan, .ref xIns, .ref xShr, .ref xSta, .ref xTur])), (xSum, .inr (8, [.ref sM, .ref sP, .ref sA, .int 0]))] s.heap.size = A at hD ⊢
  have hA : ∀ q : Nat, s.heap.size ≤ q → A q := fun q h => by rw [← hAe]; exact Or.inr h
  have hS : va_S A s.heap s.heap [] := va_S.rf
  have hP : va_P (dC, dI) vwCl [(x0, .inr (10, [.ref xTape, .ref xReader, .ref xBag, .ref xBld, .ref xAng, .ref xSum, .ref xPik, .int 0, .ref xHan, .ref xIns, .ref xShr, .ref xSta, .ref xTur])), (xSum, .inr (8, [.ref sM, .ref sP, .ref sA, .int 0]))] s.heap := hP
  have hl := lv_entry ([.ref x0, .int p0, .int p1, .int p2]) (n := 15) (Nat.le_of_ble_eq_true rfl)
  rw [lg_entry_eq]
  generalize (lg_sl ([.ref x0, .int p0, .int p1, .int p2]) ++ List.replicate (15 - (lg_sl ([.ref x0, .int p0, .int p1, .int p2])).length) Slot.unset).toArray = ls at hl ⊢
  have hl : lv_has ls 15 [(0, .ref x0), (1, .int p0), (2, .int p1), (3, .int p2)] := hl
  refine lv_iload_n hx hb dX10_multiples_0 rfl (lv_at hl 1 rfl) ?_
  have hPc := hP.sub (ws' := []) [] rfl
  have hDc := hD.sub (ws' := []) [] (by decide) rfl
  have hFc := va_free (wc := []) hD hS hA [] rfl
  refine va_calli (va_runS (As := [.int p0]) (rest := []) ⟨hx, hb, hml, hown, hts⟩ (c_X10_isSolid l dC dI cB cI cJ s.heap.size p0) (va_cwS 1 hts gX10_multiples_X10_isSolid rfl rfl rfl (by decide +kernel) ⟨Nat.le_of_ble_eq_true rfl, Nat.le_of_ble_eq_true rfl⟩) ⟨fun a U g mk q => by obtain ⟨q0, q1, qP, qK, qD⟩ := q; exact ⟨q0, q1, qP, va_K.moved (u := U) (U := U.calling g mk a) (Vm.Alike.refl U.vm) qK, qD⟩, fun U hU hW => ⟨rfl, by rw [hU], by rw [hU]; exact hPc, va_K.moved hW.alike hK, hDc.weaken (fun _ _ _ _ => trivial)⟩⟩ rfl rfl hl.1 rfl (lv_room (Nat.le_of_ble_eq_true rfl)) dX10_multiples_1 ⟨Nat.le_of_ble_eq_true rfl, Nat.le_of_ble_eq_true rfl⟩) hS (fun q _ h => hFc q h) hFc (fun r_1 u t H1 locs ht hvm hw hB hz1 hk1 hS => ?_)
  have hP1 : va_P (dC, dI) vwCl [] H1 := fun k q h => by simp at h
  have hD1 : va_D (va_A [] s.heap.size) [] := ⟨fun i j p q h => by simp at h, fun k q h => by simp at h⟩
  obtain ⟨hP, hD⟩ := va_join (wr := [(x0, .inr (10, [.ref xTape, .ref xReader, .ref xBag, .ref xBld, .ref xAng, .ref xSum, .ref xPik, .int 0, .ref xHan, .ref xIns, .ref xShr, .ref xSta, .ref xTur])), (xSum, .inr (8, [.ref sM, .ref sP, .ref sA, .int 0]))]) (w1 := []) hP hD [] [0, 1] rfl rfl (by decide) (by decide) hk1 hFc hP1 hD1
  generalize H1 = H at hP hS ⊢
  have hP : va_P (dC, dI) vwCl [(x0, .inr (10, [.ref xTape, .ref xReader, .ref xBag, .ref xBld, .ref xAng, .ref xSum, .ref xPik, .int 0, .ref xHan, .ref xIns, .ref xShr, .ref xSta, .ref xTur])), (xSum, .inr (8, [.ref sM, .ref sP, .ref sA, .int 0]))] H := hP
  have hD : va_D A [(x0, .inr (10, [.ref xTape, .ref xReader, .ref xBag, .ref xBld, .ref xAng, .ref xSum, .ref xPik, .int 0, .ref xHan, .ref xIns, .ref xShr, .ref xSta, .ref xTur])), (xSum, .inr (8, [.ref sM, .ref sP, .ref sA, .int 0]))] := hD
  rcases hw with ⟨rfl, k_2⟩ | ⟨rfl, k_2⟩
  · refine lv_if_eq (tgt := 23) hx hb dX10_multiples_4 (by decide) (fun _ => ?_) (fun c => absurd (by decide) c)
    refine lv_ldc2 (v := (-1000000)) hx hb hown (hts (.constantLong RX10 333 (-1000000)) (by decide +kernel)) dX10_multiples_23 ?_
    refine W.widen (k := 0) (n := 0) (Nat.le_of_ble_eq_true rfl) (Nat.le_of_ble_eq_true rfl) ?_
    exact W.lret (v := (-1000000)) hx hb hr (fun t ht hW => ⟨⟨(-1000000), (), rfl, rfl, trivial⟩, hS.F ht⟩) hS.2.2 dX10_multiples_26
  · refine lv_if_eq (tgt := 23) hx hb dX10_multiples_4 (by decide) (fun c => absurd c (by decide)) (fun _ => ?_)
    refine lv_iload_n hx hb dX10_multiples_7 rfl (lv_at hl 2 rfl) ?_
    have hPc := hP.sub (ws' := []) [] rfl
    have hDc := hD.sub (ws' := []) [] (by decide) rfl
    have hFc := va_free (wc := []) hD hS hA [] rfl
    refine va_calli (va_runS (As := [.int p1]) (rest := []) ⟨hx, hb, hml, hown, hts⟩ (c_X10_isSolid l dC dI cB cI cJ H.size p1) (va_cwS 1 hts gX10_multiples_X10_isSolid rfl rfl rfl (by decide +kernel) ⟨Nat.le_of_ble_eq_true rfl, Nat.le_of_ble_eq_true rfl⟩) ⟨fun a U g mk q => by obtain ⟨q0, q1, qP, qK, qD⟩ := q; exact ⟨q0, q1, qP, va_K.moved (u := U) (U := U.calling g mk a) (Vm.Alike.refl U.vm) qK, qD⟩, fun U hU hW => ⟨rfl, by rw [hU], by rw [hU]; exact hPc, va_K.moved hW.alike hK, hDc.weaken (fun _ _ _ _ => trivial)⟩⟩ rfl rfl hl.1 rfl (lv_room (Nat.le_of_ble_eq_true rfl)) dX10_multiples_8 ⟨Nat.le_of_ble_eq_true rfl, Nat.le_of_ble_eq_true rfl⟩) hS (fun q _ h => hFc q h) hFc (fun r_3 u t H1 locs ht hvm hw hB hz1 hk1 hS => ?_)
    have hP1 : va_P (dC, dI) vwCl [] H1 := fun k q h => by simp at h
    have hD1 : va_D (va_A [] H.size) [] := ⟨fun i j p q h => by simp at h, fun k q h => by simp at h⟩
    obtain ⟨hP, hD⟩ := va_join (wr := [(x0, .inr (10, [.ref xTape, .ref xReader, .ref xBag, .ref xBld, .ref xAng, .ref xSum, .ref xPik, .int 0, .ref xHan, .ref xIns, .ref xShr, .ref xSta, .ref xTur])), (xSum, .inr (8, [.ref sM, .ref sP, .ref sA, .int 0]))]) (w1 := []) hP hD [] [0, 1] rfl rfl (by decide) (by decide) hk1 hFc hP1 hD1
    generalize H1 = H at hP hS ⊢
    have hP : va_P (dC, dI) vwCl [(x0, .inr (10, [.ref xTape, .ref xReader, .ref xBag, .ref xBld, .ref xAng, .ref xSum, .ref xPik, .int 0, .ref xHan, .ref xIns, .ref xShr, .ref xSta, .ref xTur])), (xSum, .inr (8, [.ref sM, .ref sP, .ref sA, .int 0]))] H := hP
    have hD : va_D A [(x0, .inr (10, [.ref xTape, .ref xReader, .ref xBag, .ref xBld, .ref xAng, .ref xSum, .ref xPik, .int 0, .ref xHan, .ref xIns, .ref xShr, .ref xSta, .ref xTur])), (xSum, .inr (8, [.ref sM, .ref sP, .ref sA, .int 0]))] := hD
    rcases hw with ⟨rfl, k_4⟩ | ⟨rfl, k_4⟩
    · refine lv_if_eq (tgt := 23) hx hb dX10_multiples_11 (by decide) (fun _ => ?_) (fun c => absurd (by decide) c)
      refine lv_ldc2 (v := (-1000000)) hx hb hown (hts (.constantLong RX10 333 (-1000000)) (by decide +kernel)) dX10_multiples_23 ?_
      refine W.widen (k := 0) (n := 0) (Nat.le_of_ble_eq_true rfl) (Nat.le_of_ble_eq_true rfl) ?_
      exact W.lret (v := (-1000000)) hx hb hr (fun t ht hW => ⟨⟨(-1000000), (), rfl, rfl, trivial⟩, hS.F ht⟩) hS.2.2 dX10_multiples_26
    · refine lv_if_eq (tgt := 23) hx hb dX10_multiples_11 (by decide) (fun c => absurd c (by decide)) (fun _ => ?_)
      refine lv_iload_n hx hb dX10_multiples_14 rfl (lv_at hl 3 rfl) ?_
      refine lv_if_lt (tgt := 23) hx hb dX10_multiples_15 (by decide) (fun c_5 => ?_) (fun c_5 => ?_)
      · refine lv_ldc2 (v := (-1000000)) hx hb hown (hts (.constantLong RX10 333 (-1000000)) (by decide +kernel)) dX10_multiples_23 ?_
        refine W.widen (k := 0) (n := 0) (Nat.le_of_ble_eq_true rfl) (Nat.le_of_ble_eq_true rfl) ?_
        exact W.lret (v := (-1000000)) hx hb hr (fun t ht hW => ⟨⟨(-1000000), (), rfl, rfl, trivial⟩, hS.F ht⟩) hS.2.2 dX10_multiples_26
      · refine lv_iload_n hx hb dX10_multiples_18 rfl (lv_at hl 3 rfl) ?_
        refine lv_iconst (v := 2) hx hb dX10_multiples_19 (by decide) ?_
        refine lv_icmp_le (tgt := 27) hx hb dX10_multiples_20 (by decide) (fun c_6 => ?_) (fun c_6 => ?_)
        · refine lv_aload_n hx hb dX10_multiples_27 rfl (lv_at hl 0 rfl) ?_
          refine va_get (D := (dC, dI)) (ci := 10) (v := .ref xSum) (C := RX10) (T := TX10) (N := 13) hx hb hts hiX10 hown hK hP 0 rfl rfl 5 (by decide) (hts (.fieldLink RX10 51 "ScissorsTable" "sums" "LScissorsTable$Sums;") (by decide +kernel)) (fun _ h9 => h9) rfl dX10_multiples_28 ?_
          refine lv_iload_n hx hb dX10_multiples_31 rfl (lv_at hl 1 rfl) ?_
          refine lv_iconst (v := 0) hx hb dX10_multiples_32 (by decide) ?_
          have hPc := hP.sub (ws' := [(xSum, .inr (8, [.ref sM, .ref sP, .ref sA, .int 0]))]) [1] rfl
          have hDc := hD.sub (ws' := [(xSum, .inr (8, [.ref sM, .ref sP, .ref sA, .int 0]))]) [1] (by decide) rfl
          have hFc := va_free (wc := [(xSum, .inr (8, [.ref sM, .ref sP, .ref sA, .int 0]))]) hD hS hA [1] rfl
          refine va_calli (va_runV (As := [.int p0, .int 0]) (rest := []) ⟨hx, hb, hml, hown, hts⟩ (c_X8_rowOfTerm l dC dI cB cI cJ H.size xSum sM sP sA p0 0) (cwV 2 hts gX10_multiples_X8_rowOfTerm rfl rfl rfl (by decide +kernel) ⟨Nat.le_of_ble_eq_true rfl, Nat.le_of_ble_eq_true rfl⟩) ⟨fun a U g mk q => by obtain ⟨q0, q1, qP, qK, qD⟩ := q; exact ⟨q0, q1, qP, va_K.moved (u := U) (U := U.calling g mk a) (Vm.Alike.refl U.vm) qK, qD⟩, va_recv hK hP (ci := 8) (q0 := 1) rfl rfl, fun U hU hW => ⟨rfl, by rw [hU], by rw [hU]; exact hPc, va_K.moved hW.alike hK, hDc.weaken (fun _ _ _ _ => trivial)⟩⟩ rfl rfl hl.1 rfl (lv_room (Nat.le_of_ble_eq_true rfl)) dX10_multiples_33 ⟨Nat.le_of_ble_eq_true rfl, Nat.le_of_ble_eq_true rfl⟩) hS (fun q _ h => hFc q h) hFc (fun r_7 u t H1 locs ht hvm hw hB hz1 hk1 hS => ?_)
          obtain ⟨hP1, hK1, hD1⟩ := hB
          rw [ht] at hP1
          obtain ⟨hP, hD⟩ := va_join (wr := [(x0, .inr (10, [.ref xTape, .ref xReader, .ref xBag, .ref xBld, .ref xAng, .ref xSum, .ref xPik, .int 0, .ref xHan, .ref xIns, .ref xShr, .ref xSta, .ref xTur]))]) (w1 := [(xSum, .inr (8, [.ref sM, .ref sP, .ref sA, .int 0]))]) hP hD [1] [0] rfl rfl (by decide) (by decide) hk1 hFc hP1 hD1
          generalize H1 = H at hP hS ⊢
          have hP : va_P (dC, dI) vwCl [(x0, .inr (10, [.ref xTape, .ref xReader, .ref xBag, .ref xBld, .ref xAng, .ref xSum, .ref xPik, .int 0, .ref xHan, .ref xIns, .ref xShr, .ref xSta, .ref xTur])), (xSum, .inr (8, [.ref sM, .ref sP, .ref sA, .int 0]))] H := hP
          have hD : va_D A [(x0, .inr (10, [.ref xTape, .ref xReader, .ref xBag, .ref xBld, .ref xAng, .ref xSum, .ref xPik, .int 0, .ref xHan, .ref xIns, .ref xShr, .ref xSta, .ref xTur])), (xSum, .inr (8, [.ref sM, .ref sP, .ref sA, .int 0]))] := hD
          have hr_7 := hw
          obtain rfl : r_7 = (-1) := hr_7
          refine lv_istore (lv' := [(4, .int (-1)), (0, .ref x0), (1, .int p0), (2, .int p1), (3, .int p2)]) hx hb dX10_multiples_36 hl (by decide) rfl (fun ls hl => ?_)
          refine lv_iload hx hb dX10_multiples_38 (lv_at hl 0 rfl) ?_
          refine lv_if_ge (tgt := 47) hx hb dX10_multiples_40 (by decide) (fun c => absurd c (by decide)) (fun _ => ?_)
          refine lv_ldc2 (v := (-1000000)) hx hb hown (hts (.constantLong RX10 333 (-1000000)) (by decide +kernel)) dX10_multiples_43 ?_
          refine W.widen (k := 0) (n := 0) (Nat.le_of_ble_eq_true rfl) (Nat.le_of_ble_eq_true rfl) ?_
          exact W.lret (v := (-1000000)) hx hb hr (fun t ht hW => ⟨⟨(-1000000), (), rfl, rfl, trivial⟩, hS.F ht⟩) hS.2.2 dX10_multiples_46
        · refine lv_ldc2 (v := (-1000000)) hx hb hown (hts (.constantLong RX10 333 (-1000000)) (by decide +kernel)) dX10_multiples_23 ?_
          refine W.widen (k := 0) (n := 0) (Nat.le_of_ble_eq_true rfl) (Nat.le_of_ble_eq_true rfl) ?_
          exact W.lret (v := (-1000000)) hx hb hr (fun t ht hW => ⟨⟨(-1000000), (), rfl, rfl, trivial⟩, hS.F ht⟩) hS.2.2 dX10_multiples_26
set_option maxHeartbeats 4000000 in
set_option maxRecDepth 100000 in
theorem c_X10_give (l : Launch) (dC : Nat → ClassId) (dI : Nat → Nat → Nat) (cB cI cJ : ClassId) (sz : Nat) (x0 xTape xReader xBag xBld xAng xSum xPik xHan xIns xShr xSta xTur bC bS bX bW bP : Nat) (p0 p1 : Int32) : Met l yX10_give wsX10_give ({ frames := 2, cells := 0, slots := 0, locals := 45 }) (va_Pc [.ref x0, .int p0, .int p1] (fun U => U.heap.size = sz ∧ va_P (dC, dI) vwCl [(x0, .inr (10, [.ref xTape, .ref xReader, .ref xBag, .ref xBld, .ref xAng, .ref xSum, .ref xPik, .int 0, .ref xHan, .ref xIns, .ref xShr, .ref xSta, .ref xTur])), (xBag, .inr (1, [.ref bC, .ref bS, .ref bX, .ref bW, .ref bP, .int 0]))] U.heap ∧ va_K (dC, dI) vwCl [(cB, .byte), (cI, .int), (cJ, .long)] U ∧ va_D (fun _ => True) [(x0, .inr (10, [.ref xTape, .ref xReader, .ref xBag, .ref xBld, .ref xAng, .ref xSum, .ref xPik, .int 0, .ref xHan, .ref xIns, .ref xShr, .ref xSta, .ref xTur])), (xBag, .inr (1, [.ref bC, .ref bS, .ref bX, .ref bW, .ref bP, .int 0]))])) (va_Qi (fun (r : Int32) (_ : Unit) => r = (-1)) (fun _ _ => True) (va_A [(x0, .inr (10, [.ref xTape, .ref xReader, .ref xBag, .ref xBld, .ref xAng, .ref xSum, .ref xPik, .int 0, .ref xHan, .ref xIns, .ref xShr, .ref xSta, .ref xTur])), (xBag, .inr (1, [.ref bC, .ref bS, .ref bX, .ref bW, .ref bP, .int 0]))] sz)) 0 0 (va_A [(x0, .inr (10, [.ref xTape, .ref xReader, .ref xBag, .ref xBld, .ref xAng, .ref xSum, .ref xPik, .int 0, .ref xHan, .ref xIns, .ref xShr, .ref xSta, .ref xTur])), (xBag, .inr (1, [.ref bC, .ref bS, .ref bX, .ref bW, .ref bP, .int 0]))] sz) := by
  refine Met.ofW (cc := cX10_give) (maxL := 4) (ret := (some .int)) (by decide) rfl ?_
  intro p e s m args below meth c s₁ B hml hv
  obtain ⟨rfl, hsz, hP, hK, hD0⟩ := hv
  have hx := B.exec
  have hb := B.bytes
  have hr := B.returns
  have hts := atoms_spec (ws := wsX10_give) B.pre
  have hown : s.vm.findClass RX10 = some m.cls := findClass_of_methodNamed B.named
  have hlocks := B.notSynchronized
  have hiX10 : ∀ w ∈ u_ws RX10 TX10 13, w ∈ wsX10_give := by decide +kernel
  subst hsz
  have hD := hD0.self (sz := s.heap.size)
  generalize hAe : va_A [(x0, .inr (10, [.ref xTape, .ref xReader, .ref xBag, .ref xBld, .ref xAng, .ref xSum, .ref xPik, .int 0, .ref xHan, .ref xIns, .ref xShr, .ref xSta, .ref xTur])), (xBag, .inr (1, [.ref bC, .ref bS, .ref bX, .ref bW, .ref bP, .int 0]))] s.heap.size = A at hD ⊢
  have hA : ∀ q : Nat, s.heap.size ≤ q → A q := fun q h => by rw [← hAe]; exact Or.inr h
  have hS : va_S A s.heap s.heap [] := va_S.rf
  have hP : va_P (dC, dI) vwCl [(x0, .inr (10, [.ref xTape, .ref xReader, .ref xBag, .ref xBld, .ref xAng, .ref xSum, .ref xPik, .int 0, .ref xHan, .ref xIns, .ref xShr, .ref xSta, .ref xTur])), (xBag, .inr (1, [.ref bC, .ref bS, .ref bX, .ref bW, .ref bP, .int 0]))] s.heap := hP
  have hl := lv_entry ([.ref x0, .int p0, .int p1]) (n := 4) (Nat.le_of_ble_eq_true rfl)
  rw [lg_entry_eq]
  generalize (lg_sl ([.ref x0, .int p0, .int p1]) ++ List.replicate (4 - (lg_sl ([.ref x0, .int p0, .int p1])).length) Slot.unset).toArray = ls at hl ⊢
  have hl : lv_has ls 4 [(0, .ref x0), (1, .int p0), (2, .int p1)] := hl
  refine lv_aload_n hx hb dX10_give_0 rfl (lv_at hl 0 rfl) ?_
  refine va_get (D := (dC, dI)) (ci := 10) (v := .ref xBag) (C := RX10) (T := TX10) (N := 13) hx hb hts hiX10 hown hK hP 0 rfl rfl 2 (by decide) (hts (.fieldLink RX10 28 "ScissorsTable" "bag" "LScissorsTable$Bag;") (by decide +kernel)) (fun _ h9 => h9) rfl dX10_give_1 ?_
  refine lv_iload_n hx hb dX10_give_4 rfl (lv_at hl 1 rfl) ?_
  have hPc := hP.sub (ws' := [(xBag, .inr (1, [.ref bC, .ref bS, .ref bX, .ref bW, .ref bP, .int 0]))]) [1] rfl
  have hDc := hD.sub (ws' := [(xBag, .inr (1, [.ref bC, .ref bS, .ref bX, .ref bW, .ref bP, .int 0]))]) [1] (by decide) rfl
  have hFc := va_free (wc := [(xBag, .inr (1, [.ref bC, .ref bS, .ref bX, .ref bW, .ref bP, .int 0]))]) hD hS hA [1] rfl
  refine va_calli (va_runV (As := [.int p0]) (rest := []) ⟨hx, hb, hml, hown, hts⟩ (c_X1_has l dC dI cB cI cJ s.heap.size xBag bC bS bX bW bP p0) (cwV 1 hts gX10_give_X1_has rfl rfl rfl (by decide +kernel) ⟨Nat.le_of_ble_eq_true rfl, Nat.le_of_ble_eq_true rfl⟩) ⟨fun a U g mk q => by obtain ⟨q0, q1, qP, qK, qD⟩ := q; exact ⟨q0, q1, qP, va_K.moved (u := U) (U := U.calling g mk a) (Vm.Alike.refl U.vm) qK, qD⟩, va_recv hK hP (ci := 1) (q0 := 1) rfl rfl, fun U hU hW => ⟨rfl, by rw [hU], by rw [hU]; exact hPc, va_K.moved hW.alike hK, hDc.weaken (fun _ _ _ _ => trivial)⟩⟩ rfl rfl hl.1 rfl (lv_room (Nat.le_of_ble_eq_true rfl)) dX10_give_5 ⟨Nat.le_of_ble_eq_true rfl, Nat.le_of_ble_eq_true rfl⟩) hS (fun q _ h => hFc q h) hFc (fun r_1 u t H1 locs ht hvm hw hB hz1 hk1 hS => ?_)
  obtain ⟨hP1, hK1, hD1⟩ := hB
  rw [ht] at hP1
  obtain ⟨hP, hD⟩ := va_join (wr := [(x0, .inr (10, [.ref xTape, .ref xReader, .ref xBag, .ref xBld, .ref xAng, .ref xSum, .ref xPik, .int 0, .ref xHan, .ref xIns, .ref xShr, .ref xSta, .ref xTur]))]) (w1 := [(xBag, .inr (1, [.ref bC, .ref bS, .ref bX, .ref bW, .ref bP, .int 0]))]) hP hD [1] [0] rfl rfl (by decide) (by decide) hk1 hFc hP1 hD1
  generalize H1 = H at hP hS ⊢
  have hP : va_P (dC, dI) vwCl [(x0, .inr (10, [.ref xTape, .ref xReader, .ref xBag, .ref xBld, .ref xAng, .ref xSum, .ref xPik, .int 0, .ref xHan, .ref xIns, .ref xShr, .ref xSta, .ref xTur])), (xBag, .inr (1, [.ref bC, .ref bS, .ref bX, .ref bW, .ref bP, .int 0]))] H := hP
  have hD : va_D A [(x0, .inr (10, [.ref xTape, .ref xReader, .ref xBag, .ref xBld, .ref xAng, .ref xSum, .ref xPik, .int 0, .ref xHan, .ref xIns, .ref xShr, .ref xSta, .ref xTur])), (xBag, .inr (1, [.ref bC, .ref bS, .ref bX, .ref bW, .ref bP, .int 0]))] := hD
  have hr_1 := hw
  obtain rfl : r_1 = 0 := hr_1
  refine lv_if_eq (tgt := 18) hx hb dX10_give_8 (by decide) (fun _ => ?_) (fun c => absurd (by decide) c)
  refine lv_iconst (v := (-1)) hx hb dX10_give_18 (by decide) ?_
  refine W.widen (k := 0) (n := 0) (Nat.le_of_ble_eq_true rfl) (Nat.le_of_ble_eq_true rfl) ?_
  exact W.iret (v := (-1)) hx hb hr (fun t ht hW => ⟨⟨(-1), (), rfl, rfl, trivial⟩, hS.F ht⟩) hS.2.2 dX10_give_19
set_option maxHeartbeats 4000000 in
set_option maxRecDepth 100000 in
theorem c_X10_oddEdges (l : Launch) (dC : Nat → ClassId) (dI : Nat → Nat → Nat) (cB cI cJ : ClassId) (sz : Nat) (x0 xTape xReader xBag xBld xAng xSum xPik xHan xIns xShr xSta xTur bC bS bX bW bP : Nat) (p0 : Int32) : Met l yX10_oddEdges wsX10_oddEdges ({ frames := 1, cells := 0, slots := 0, locals := 24 }) (va_Pc [.ref x0, .int p0] (fun U => U.heap.size = sz ∧ va_P (dC, dI) vwCl [(x0, .inr (10, [.ref xTape, .ref xReader, .ref xBag, .ref xBld, .ref xAng, .ref xSum, .ref xPik, .int 0, .ref xHan, .ref xIns, .ref xShr, .ref xSta, .ref xTur])), (xBag, .inr (1, [.ref bC, .ref bS, .ref bX, .ref bW, .ref bP, .int 0]))] U.heap ∧ va_K (dC, dI) vwCl [(cB, .byte), (cI, .int), (cJ, .long)] U ∧ va_D (fun _ => True) [(x0, .inr (10, [.ref xTape, .ref xReader, .ref xBag, .ref xBld, .ref xAng, .ref xSum, .ref xPik, .int 0, .ref xHan, .ref xIns, .ref xShr, .ref xSta, .ref xTur])), (xBag, .inr (1, [.ref bC, .ref bS, .ref bX, .ref bW, .ref bP, .int 0]))])) (va_Qi (fun (r : Int32) (_ : Unit) => r = 0) (fun _ t => va_P (dC, dI) vwCl [(x0, .inr (10, [.ref xTape, .ref xReader, .ref xBag, .ref xBld, .ref xAng, .ref xSum, .ref xPik, .int 0, .ref xHan, .ref xIns, .ref xShr, .ref xSta, .ref xTur])), (xBag, .inr (1, [.ref bC, .ref bS, .ref bX, .ref bW, .ref bP, .int 0]))] t.heap ∧ va_K (dC, dI) vwCl [(cB, .byte), (cI, .int), (cJ, .long)] t ∧ va_D (va_A [(x0, .inr (10, [.ref xTape, .ref xReader, .ref xBag, .ref xBld, .ref xAng, .ref xSum, .ref xPik, .int 0, .ref xHan, .ref xIns, .ref xShr, .ref xSta, .ref xTur])), (xBag, .inr (1, [.ref bC, .ref bS, .ref bX, .ref bW, .ref bP, .int 0]))] sz) [(x0, .inr (10, [.ref xTape, .ref xReader, .ref xBag, .ref xBld, .ref xAng, .ref xSum, .ref xPik, .int 0, .ref xHan, .ref xIns, .ref xShr, .ref xSta, .ref xTur])), (xBag, .inr (1, [.ref bC, .ref bS, .ref bX, .ref bW, .ref bP, .int 0]))]) (va_A [(x0, .inr (10, [.ref xTape, .ref xReader, .ref xBag, .ref xBld, .ref xAng, .ref xSum, .ref xPik, .int 0, .ref xHan, .ref xIns, .ref xShr, .ref xSta, .ref xTur])), (xBag, .inr (1, [.ref bC, .ref bS, .ref bX, .ref bW, .ref bP, .int 0]))] sz)) 0 0 (va_A [(x0, .inr (10, [.ref xTape, .ref xReader, .ref xBag, .ref xBld, .ref xAng, .ref xSum, .ref xPik, .int 0, .ref xHan, .ref xIns, .ref xShr, .ref xSta, .ref xTur])), (xBag, .inr (1, [.ref bC, .ref bS, .ref bX, .ref bW, .ref bP, .int 0]))] sz) := by
  refine Met.ofW (cc := cX10_oddEdges) (maxL := 5) (ret := (some .int)) (by decide) rfl ?_
  intro p e s m args below meth c s₁ B hml hv
  obtain ⟨rfl, hsz, hP, hK, hD0⟩ := hv
  have hx := B.exec
  have hb := B.bytes
  have hr := B.returns
  have hts := atoms_spec (ws := wsX10_oddEdges) B.pre
  have hown : s.vm.findClass RX10 = some m.cls := findClass_of_methodNamed B.named
  have hlocks := B.notSynchronized
  have hiX1 : ∀ w ∈ u_ws RX1 TX1 6, w ∈ wsX10_oddEdges := by decide +kernel
  have hiX10 : ∀ w ∈ u_ws RX10 TX10 13, w ∈ wsX10_oddEdges := by decide +kernel
  subst hsz
  have hD := hD0.self (sz := s.heap.size)
  generalize hAe : va_A [(x0, .inr (10, [.ref xTape, .ref xReader, .ref xBag, .ref xBld, .ref xAng, .ref xSum, .ref xPik, .int 0, .ref xHan, .ref xIns, .ref xShr, .ref xSta, .ref xTur])), (xBag, .inr (1, [.ref bC, .ref bS, .ref bX, .ref bW, .ref bP, .int 0]))] s.heap.size = A at hD ⊢
  have hA : ∀ q : Nat, s.heap.size ≤ q → A q := fun q h => by rw [← hAe]; exact Or.inr h
  have hS : va_S A s.heap s.heap [] := va_S.rf
  have hP : va_P (dC, dI) vwCl [(x0, .inr (10, [.ref xTape, .ref xReader, .ref xBag, .ref xBld, .ref xAng, .ref xSum, .ref xPik, .int 0, .ref xHan, .ref xIns, .ref xShr, .ref xSta, .ref xTur])), (xBag, .inr (1, [.ref bC, .ref bS, .ref bX, .ref bW, .ref bP, .int 0]))] s.heap := hP
  have hl := lv_entry ([.ref x0, .int p0]) (n := 5) (Nat.le_of_ble_eq_true rfl)
  rw [lg_entry_eq]
  generalize (lg_sl ([.ref x0, .int p0]) ++ List.replicate (5 - (lg_sl ([.ref x0, .int p0])).length) Slot.unset).toArray = ls at hl ⊢
  have hl : lv_has ls 5 [(0, .ref x0), (1, .int p0)] := hl
  refine lv_iconst (v := 0) hx hb dX10_oddEdges_0 (by decide) ?_
  refine lv_istore_n (lv' := [(2, .int 0), (0, .ref x0), (1, .int p0)]) hx hb dX10_oddEdges_1 rfl hl (by decide) rfl (fun ls hl => ?_)
  refine lv_iconst (v := 0) hx hb dX10_oddEdges_2 (by decide) ?_
  refine lv_istore_n (lv' := [(3, .int 0), (2, .int 0), (0, .ref x0), (1, .int p0)]) hx hb dX10_oddEdges_3 rfl hl (by decide) rfl (fun ls hl => ?_)
  refine lv_iload_n hx hb dX10_oddEdges_4 rfl (lv_at hl 0 rfl) ?_
  refine lv_aload_n hx hb dX10_oddEdges_5 rfl (lv_at hl 2 rfl) ?_
  refine va_get (D := (dC, dI)) (ci := 10) (v := .ref xBag) (C := RX10) (T := TX10) (N := 13) hx hb hts hiX10 hown hK hP 0 rfl rfl 2 (by decide) (hts (.fieldLink RX10 28 "ScissorsTable" "bag" "LScissorsTable$Bag;") (by decide +kernel)) (fun _ h9 => h9) rfl dX10_oddEdges_6 ?_
  refine va_get (D := (dC, dI)) (ci := 1) (v := .int 0) (C := RX1) (T := TX1) (N := 6) hx hb hts hiX1 hown hK hP 1 rfl rfl 5 (by decide) (hts (.fieldLink RX10 108 "ScissorsTable$Bag" "size" "I") (by decide +kernel)) (fun _ h9 => h9) rfl dX10_oddEdges_9 ?_
  refine lv_icmp_ge (tgt := 94) hx hb dX10_oddEdges_12 (by decide) (fun _ => ?_) (fun c => absurd (by decide) c)
  refine lv_iload_n hx hb dX10_oddEdges_94 rfl (lv_at hl 1 rfl) ?_
  have hP9 := hP.sub (ws' := [(x0, .inr (10, [.ref xTape, .ref xReader, .ref xBag, .ref xBld, .ref xAng, .ref xSum, .ref xPik, .int 0, .ref xHan, .ref xIns, .ref xShr, .ref xSta, .ref xTur])), (xBag, .inr (1, [.ref bC, .ref bS, .ref bX, .ref bW, .ref bP, .int 0]))]) [0, 1] rfl
  have hD9 := hD.sub (ws' := [(x0, .inr (10, [.ref xTape, .ref xReader, .ref xBag, .ref xBld, .ref xAng, .ref xSum, .ref xPik, .int 0, .ref xHan, .ref xIns, .ref xShr, .ref xSta, .ref xTur])), (xBag, .inr (1, [.ref bC, .ref bS, .ref bX, .ref bW, .ref bP, .int 0]))]) [0, 1] (by decide) rfl
  refine W.widen (k := 0) (n := 0) (Nat.le_of_ble_eq_true rfl) (Nat.le_of_ble_eq_true rfl) ?_
  exact W.iret (v := 0) hx hb hr (fun t ht hW => ⟨⟨0, (), rfl, rfl, by rw [ht]; exact hP9, va_K.moved hW.alike hK, hD9⟩, hS.F ht⟩) hS.2.2 dX10_oddEdges_95
set_option maxHeartbeats 4000000 in
set_option maxRecDepth 100000 in
theorem c_X10_solid (l : Launch) (dC : Nat → ClassId) (dI : Nat → Nat → Nat) (cB cI cJ : ClassId) (sz : Nat) (x0 xTape xReader xBag xBld xAng xSum xPik xHan xIns xShr xSta xTur bC bS bX bW bP sM sP sA : Nat) (p0 p1 : Int32) : Met l yX10_solid wsX10_solid ({ frames := 2, cells := 0, slots := 0, locals := 48 }) (va_Pc [.ref x0, .int p0, .int p1] (fun U => U.heap.size = sz ∧ va_P (dC, dI) vwCl [(x0, .inr (10, [.ref xTape, .ref xReader, .ref xBag, .ref xBld, .ref xAng, .ref xSum, .ref xPik, .int 0, .ref xHan, .ref xIns, .ref xShr, .ref xSta, .ref xTur])), (xBag, .inr (1, [.ref bC, .ref bS, .ref bX, .ref bW, .ref bP, .int 0])), (xSum, .inr (8, [.ref sM, .ref sP, .ref sA, .int 0]))] U.heap ∧ va_K (dC, dI) vwCl [(cB, .byte), (cI, .int), (cJ, .long)] U ∧ va_D (fun _ => True) [(x0, .inr (10, [.ref xTape, .ref xReader, .ref xBag, .ref xBld, .ref xAng, .ref xSum, .ref xPik, .int 0, .ref xHan, .ref xIns, .ref xShr, .ref xSta, .ref xTur])), (xBag, .inr (1, [.ref bC, .ref bS, .ref bX, .ref bW, .ref bP, .int 0])), (xSum, .inr (8, [.ref sM, .ref sP, .ref sA, .int 0]))])) (va_Qi (fun (r : Int32) (_ : Unit) => r = sp_valid p0 p1 4 0 (-1)) (fun _ _ => True) (va_A [(x0, .inr (10, [.ref xTape, .ref xReader, .ref xBag, .ref xBld, .ref xAng, .ref xSum, .ref xPik, .int 0, .ref xHan, .ref xIns, .ref xShr, .ref xSta, .ref xTur])), (xBag, .inr (1, [.ref bC, .ref bS, .ref bX, .ref bW, .ref bP, .int 0])), (xSum, .inr (8, [.ref sM, .ref sP, .ref sA, .int 0]))] sz)) 0 0 (va_A [(x0, .inr (10, [.ref xTape, .ref xReader, .ref xBag, .ref xBld, .ref xAng, .ref xSum, .ref xPik, .int 0, .ref xHan, .ref xIns, .ref xShr, .ref xSta, .ref xTur])), (xBag, .inr (1, [.ref bC, .ref bS, .ref bX, .ref bW, .ref bP, .int 0])), (xSum, .inr (8, [.ref sM, .ref sP, .ref sA, .int 0]))] sz) := by
  refine Met.ofW (cc := cX10_solid) (maxL := 3) (ret := (some .int)) (by decide) rfl ?_
  intro p e s m args below meth c s₁ B hml hv
  obtain ⟨rfl, hsz, hP, hK, hD0⟩ := hv
  have hx := B.exec
  have hb := B.bytes
  have hr := B.returns
  have hts := atoms_spec (ws := wsX10_solid) B.pre
  have hown : s.vm.findClass RX10 = some m.cls := findClass_of_methodNamed B.named
  have hlocks := B.notSynchronized
  have hiX10 : ∀ w ∈ u_ws RX10 TX10 13, w ∈ wsX10_solid := by decide +kernel
  subst hsz
  have hD := hD0.self (sz := s.heap.size)
  generalize hAe : va_A [(x0, .inr (10, [.ref xTape, .ref xReader, .ref xBag, .ref xBld, .ref xAng, .ref xSum, .ref xPik, .int 0, .ref xHan, .ref xIns, .ref xShr, .ref xSta, .ref xTur])), (xBag, .inr (1, [.ref bC, .ref bS, .ref bX, .ref bW, .ref bP, .int 0])), (xSum, .inr (8, [.ref sM, .ref sP, .ref sA, .int 0]))] s.heap.size = A at hD ⊢
  have hA : ∀ q : Nat, s.heap.size ≤ q → A q := fun q h => by rw [← hAe]; exact Or.inr h
  have hS : va_S A s.heap s.heap [] := va_S.rf
  have hP : va_P (dC, dI) vwCl [(x0, .inr (10, [.ref xTape, .ref xReader, .ref xBag, .ref xBld, .ref xAng, .ref xSum, .ref xPik, .int 0, .ref xHan, .ref xIns, .ref xShr, .ref xSta, .ref xTur])), (xBag, .inr (1, [.ref bC, .ref bS, .ref bX, .ref bW, .ref bP, .int 0])), (xSum, .inr (8, [.ref sM, .ref sP, .ref sA, .int 0]))] s.heap := hP
  have hl := lv_entry ([.ref x0, .int p0, .int p1]) (n := 3) (Nat.le_of_ble_eq_true rfl)
  rw [lg_entry_eq]
  generalize (lg_sl ([.ref x0, .int p0, .int p1]) ++ List.replicate (3 - (lg_sl ([.ref x0, .int p0, .int p1])).length) Slot.unset).toArray = ls at hl ⊢
  have hl : lv_has ls 3 [(0, .ref x0), (1, .int p0), (2, .int p1)] := hl
  refine lv_iload_n hx hb dX10_solid_0 rfl (lv_at hl 1 rfl) ?_
  have hPc := hP.sub (ws' := []) [] rfl
  have hDc := hD.sub (ws' := []) [] (by decide) rfl
  have hFc := va_free (wc := []) hD hS hA [] rfl
  refine va_calli (va_runS (As := [.int p0]) (rest := []) ⟨hx, hb, hml, hown, hts⟩ (c_X10_isSolid l dC dI cB cI cJ s.heap.size p0) (va_cwS 1 hts gX10_solid_X10_isSolid rfl rfl rfl (by decide +kernel) ⟨Nat.le_of_ble_eq_true rfl, Nat.le_of_ble_eq_true rfl⟩) ⟨fun a U g mk q => by obtain ⟨q0, q1, qP, qK, qD⟩ := q; exact ⟨q0, q1, qP, va_K.moved (u := U) (U := U.calling g mk a) (Vm.Alike.refl U.vm) qK, qD⟩, fun U hU hW => ⟨rfl, by rw [hU], by rw [hU]; exact hPc, va_K.moved hW.alike hK, hDc.weaken (fun _ _ _ _ => trivial)⟩⟩ rfl rfl hl.1 rfl (lv_room (Nat.le_of_ble_eq_true rfl)) dX10_solid_1 ⟨Nat.le_of_ble_eq_true rfl, Nat.le_of_ble_eq_true rfl⟩) hS (fun q _ h => hFc q h) hFc (fun r_1 u t H1 locs ht hvm hw hB hz1 hk1 hS => ?_)
  have hP1 : va_P (dC, dI) vwCl [] H1 := fun k q h => by simp at h
  have hD1 : va_D (va_A [] s.heap.size) [] := ⟨fun i j p q h => by simp at h, fun k q h => by simp at h⟩
  obtain ⟨hP, hD⟩ := va_join (wr := [(x0, .inr (10, [.ref xTape, .ref xReader, .ref xBag, .ref xBld, .ref xAng, .ref xSum, .ref xPik, .int 0, .ref xHan, .ref xIns, .ref xShr, .ref xSta, .ref xTur])), (xBag, .inr (1, [.ref bC, .ref bS, .ref bX, .ref bW, .ref bP, .int 0])), (xSum, .inr (8, [.ref sM, .ref sP, .ref sA, .int 0]))]) (w1 := []) hP hD [] [0, 1, 2] rfl rfl (by decide) (by decide) hk1 hFc hP1 hD1
  generalize H1 = H at hP hS ⊢
  have hP : va_P (dC, dI) vwCl [(x0, .inr (10, [.ref xTape, .ref xReader, .ref xBag, .ref xBld, .ref xAng, .ref xSum, .ref xPik, .int 0, .ref xHan, .ref xIns, .ref xShr, .ref xSta, .ref xTur])), (xBag, .inr (1, [.ref bC, .ref bS, .ref bX, .ref bW, .ref bP, .int 0])), (xSum, .inr (8, [.ref sM, .ref sP, .ref sA, .int 0]))] H := hP
  have hD : va_D A [(x0, .inr (10, [.ref xTape, .ref xReader, .ref xBag, .ref xBld, .ref xAng, .ref xSum, .ref xPik, .int 0, .ref xHan, .ref xIns, .ref xShr, .ref xSta, .ref xTur])), (xBag, .inr (1, [.ref bC, .ref bS, .ref bX, .ref bW, .ref bP, .int 0])), (xSum, .inr (8, [.ref sM, .ref sP, .ref sA, .int 0]))] := hD
  rcases hw with ⟨rfl, k_2⟩ | ⟨rfl, k_2⟩
  · refine lv_if_ne (tgt := 9) hx hb dX10_solid_4 (by decide) (fun c => absurd (by decide) c) (fun _ => ?_)
    refine lv_iconst (v := (-1)) hx hb dX10_solid_7 (by decide) ?_
    refine W.widen (k := 0) (n := 0) (Nat.le_of_ble_eq_true rfl) (Nat.le_of_ble_eq_true rfl) ?_
    exact W.iret (v := (-1)) hx hb hr (fun t ht hW => ⟨⟨(-1), (), rfl, (by (try simp only [nk_lt, nk_le, nk_eq, nk_wd, nk_c0, nk_c1, nk_c2, nk_c3, nk_c4, nk_c5, nk_c6, nk_c15, nk_c16, nk_c24, nk_c47, nk_c48, nk_c600, nk_c1728, nk_m1, nk_l0, nk_l1, nk_l2, nk_l3, nk_l5, nk_l15, nk_l24, nk_l47] at k_2); (unfold sp_valid; first | rfl | decide | (rw [if_pos (by first | omega | (simp only [nk_lt, nk_le, nk_eq, nk_wd, nk_c0, nk_c1, nk_c2, nk_c3, nk_c4, nk_c5, nk_c6, nk_c15, nk_c16, nk_c24, nk_c47, nk_c48, nk_c600, nk_c1728, nk_m1, nk_l0, nk_l1, nk_l2, nk_l3, nk_l5, nk_l15, nk_l24, nk_l47]; omega) | (simp only [nk_lt, nk_le, nk_eq, nk_wd, nk_c0, nk_c1, nk_c2, nk_c3, nk_c4, nk_c5, nk_c6, nk_c15, nk_c16, nk_c24, nk_c47, nk_c48, nk_c600, nk_c1728, nk_m1, nk_l0, nk_l1, nk_l2, nk_l3, nk_l5, nk_l15, nk_l24, nk_l47]; done))]) | (rw [if_neg (by first | omega | (simp only [nk_lt, nk_le, nk_eq, nk_wd, nk_c0, nk_c1, nk_c2, nk_c3, nk_c4, nk_c5, nk_c6, nk_c15, nk_c16, nk_c24, nk_c47, nk_c48, nk_c600, nk_c1728, nk_m1, nk_l0, nk_l1, nk_l2, nk_l3, nk_l5, nk_l15, nk_l24, nk_l47]; omega) | (simp only [nk_lt, nk_le, nk_eq, nk_wd, nk_c0, nk_c1, nk_c2, nk_c3, nk_c4, nk_c5, nk_c6, nk_c15, nk_c16, nk_c24, nk_c47, nk_c48, nk_c600, nk_c1728, nk_m1, nk_l0, nk_l1, nk_l2, nk_l3, nk_l5, nk_l15, nk_l24, nk_l47]; done))]))), trivial⟩, hS.F ht⟩) hS.2.2 dX10_solid_8
  · refine lv_if_ne (tgt := 9) hx hb dX10_solid_4 (by decide) (fun _ => ?_) (fun c => absurd c (by decide))
    refine lv_iload_n hx hb dX10_solid_9 rfl (lv_at hl 2 rfl) ?_
    by_cases s_3 : p1 = 0
    · subst s_3
      refine lv_tableIn (off := 30) (tgt := 40) hx hb dX10_solid_10 (by decide) (by decide) (by decide) (by decide) ?_
      refine lv_aload_n hx hb dX10_solid_40 rfl (lv_at hl 0 rfl) ?_
      refine va_get (D := (dC, dI)) (ci := 10) (v := .ref xBag) (C := RX10) (T := TX10) (N := 13) hx hb hts hiX10 hown hK hP 0 rfl rfl 2 (by decide) (hts (.fieldLink RX10 28 "ScissorsTable" "bag" "LScissorsTable$Bag;") (by decide +kernel)) (fun _ h9 => h9) rfl dX10_solid_41 ?_
      refine lv_iload_n hx hb dX10_solid_44 rfl (lv_at hl 1 rfl) ?_
      have hPc := hP.sub (ws' := [(xBag, .inr (1, [.ref bC, .ref bS, .ref bX, .ref bW, .ref bP, .int 0]))]) [1] rfl
      have hDc := hD.sub (ws' := [(xBag, .inr (1, [.ref bC, .ref bS, .ref bX, .ref bW, .ref bP, .int 0]))]) [1] (by decide) rfl
      have hFc := va_free (wc := [(xBag, .inr (1, [.ref bC, .ref bS, .ref bX, .ref bW, .ref bP, .int 0]))]) hD hS hA [1] rfl
      refine va_calli (va_runV (As := [.int p0]) (rest := []) ⟨hx, hb, hml, hown, hts⟩ (c_X1_sixOfSolid l dC dI cB cI cJ H.size xBag bC bS bX bW bP p0) (cwV 1 hts gX10_solid_X1_sixOfSolid rfl rfl rfl (by decide +kernel) ⟨Nat.le_of_ble_eq_true rfl, Nat.le_of_ble_eq_true rfl⟩) ⟨fun a U g mk q => by obtain ⟨q0, q1, qP, qK, qD⟩ := q; exact ⟨q0, q1, qP, va_K.moved (u := U) (U := U.calling g mk a) (Vm.Alike.refl U.vm) qK, qD⟩, va_recv hK hP (ci := 1) (q0 := 1) rfl rfl, fun U hU hW => ⟨rfl, by rw [hU], by rw [hU]; exact hPc, va_K.moved hW.alike hK, hDc.weaken (fun _ _ _ _ => trivial)⟩⟩ rfl rfl hl.1 rfl (lv_room (Nat.le_of_ble_eq_true rfl)) dX10_solid_45 ⟨Nat.le_of_ble_eq_true rfl, Nat.le_of_ble_eq_true rfl⟩) hS (fun q _ h => hFc q h) hFc (fun r_4 u t H1 locs ht hvm hw hB hz1 hk1 hS => ?_)
      obtain ⟨hP1, hK1, hD1⟩ := hB
      rw [ht] at hP1
      obtain ⟨hP, hD⟩ := va_join (wr := [(x0, .inr (10, [.ref xTape, .ref xReader, .ref xBag, .ref xBld, .ref xAng, .ref xSum, .ref xPik, .int 0, .ref xHan, .ref xIns, .ref xShr, .ref xSta, .ref xTur])), (xSum, .inr (8, [.ref sM, .ref sP, .ref sA, .int 0]))]) (w1 := [(xBag, .inr (1, [.ref bC, .ref bS, .ref bX, .ref bW, .ref bP, .int 0]))]) hP hD [1] [0, 2] rfl rfl (by decide) (by decide) hk1 hFc hP1 hD1
      generalize H1 = H at hP hS ⊢
      have hP : va_P (dC, dI) vwCl [(x0, .inr (10, [.ref xTape, .ref xReader, .ref xBag, .ref xBld, .ref xAng, .ref xSum, .ref xPik, .int 0, .ref xHan, .ref xIns, .ref xShr, .ref xSta, .ref xTur])), (xSum, .inr (8, [.ref sM, .ref sP, .ref sA, .int 0])), (xBag, .inr (1, [.ref bC, .ref bS, .ref bX, .ref bW, .ref bP, .int 0]))] H := hP
      have hD : va_D A [(x0, .inr (10, [.ref xTape, .ref xReader, .ref xBag, .ref xBld, .ref xAng, .ref xSum, .ref xPik, .int 0, .ref xHan, .ref xIns, .ref xShr, .ref xSta, .ref xTur])), (xSum, .inr (8, [.ref sM, .ref sP, .ref sA, .int 0])), (xBag, .inr (1, [.ref bC, .ref bS, .ref bX, .ref bW, .ref bP, .int 0]))] := hD
      have hr_4 := hw
      obtain rfl : r_4 = 0 := hr_4
      refine W.widen (k := 0) (n := 0) (Nat.le_of_ble_eq_true rfl) (Nat.le_of_ble_eq_true rfl) ?_
      exact W.iret (v := 0) hx hb hr (fun t ht hW => ⟨⟨0, (), rfl, (by (try simp only [nk_lt, nk_le, nk_eq, nk_wd, nk_c0, nk_c1, nk_c2, nk_c3, nk_c4, nk_c5, nk_c6, nk_c15, nk_c16, nk_c24, nk_c47, nk_c48, nk_c600, nk_c1728, nk_m1, nk_l0, nk_l1, nk_l2, nk_l3, nk_l5, nk_l15, nk_l24, nk_l47] at k_2); (unfold sp_valid; first | rfl | decide | (rw [if_pos (by first | omega | (simp only [nk_lt, nk_le, nk_eq, nk_wd, nk_c0, nk_c1, nk_c2, nk_c3, nk_c4, nk_c5, nk_c6, nk_c15, nk_c16, nk_c24, nk_c47, nk_c48, nk_c600, nk_c1728, nk_m1, nk_l0, nk_l1, nk_l2, nk_l3, nk_l5, nk_l15, nk_l24, nk_l47]; omega) | (simp only [nk_lt, nk_le, nk_eq, nk_wd, nk_c0, nk_c1, nk_c2, nk_c3, nk_c4, nk_c5, nk_c6, nk_c15, nk_c16, nk_c24, nk_c47, nk_c48, nk_c600, nk_c1728, nk_m1, nk_l0, nk_l1, nk_l2, nk_l3, nk_l5, nk_l15, nk_l24, nk_l47]; done))]) | (rw [if_neg (by first | omega | (simp only [nk_lt, nk_le, nk_eq, nk_wd, nk_c0, nk_c1, nk_c2, nk_c3, nk_c4, nk_c5, nk_c6, nk_c15, nk_c16, nk_c24, nk_c47, nk_c48, nk_c600, nk_c1728, nk_m1, nk_l0, nk_l1, nk_l2, nk_l3, nk_l5, nk_l15, nk_l24, nk_l47]; omega) | (simp only [nk_lt, nk_le, nk_eq, nk_wd, nk_c0, nk_c1, nk_c2, nk_c3, nk_c4, nk_c5, nk_c6, nk_c15, nk_c16, nk_c24, nk_c47, nk_c48, nk_c600, nk_c1728, nk_m1, nk_l0, nk_l1, nk_l2, nk_l3, nk_l5, nk_l15, nk_l24, nk_l47]; done))]))), trivial⟩, hS.F ht⟩) hS.2.2 dX10_solid_48
    by_cases s_5 : p1 = 1
    · subst s_5
      refine lv_tableIn (off := 39) (tgt := 49) hx hb dX10_solid_10 (by decide) (by decide) (by decide) (by decide) ?_
      refine lv_aload_n hx hb dX10_solid_49 rfl (lv_at hl 0 rfl) ?_
      refine va_get (D := (dC, dI)) (ci := 10) (v := .ref xBag) (C := RX10) (T := TX10) (N := 13) hx hb hts hiX10 hown hK hP 0 rfl rfl 2 (by decide) (hts (.fieldLink RX10 28 "ScissorsTable" "bag" "LScissorsTable$Bag;") (by decide +kernel)) (fun _ h9 => h9) rfl dX10_solid_50 ?_
      refine lv_iload_n hx hb dX10_solid_53 rfl (lv_at hl 1 rfl) ?_
      have hPc := hP.sub (ws' := [(xBag, .inr (1, [.ref bC, .ref bS, .ref bX, .ref bW, .ref bP, .int 0]))]) [1] rfl
      have hDc := hD.sub (ws' := [(xBag, .inr (1, [.ref bC, .ref bS, .ref bX, .ref bW, .ref bP, .int 0]))]) [1] (by decide) rfl
      have hFc := va_free (wc := [(xBag, .inr (1, [.ref bC, .ref bS, .ref bX, .ref bW, .ref bP, .int 0]))]) hD hS hA [1] rfl
      refine va_calli (va_runV (As := [.int p0]) (rest := []) ⟨hx, hb, hml, hown, hts⟩ (c_X1_tetsOfSolid l dC dI cB cI cJ H.size xBag bC bS bX bW bP p0) (cwV 1 hts gX10_solid_X1_tetsOfSolid rfl rfl rfl (by decide +kernel) ⟨Nat.le_of_ble_eq_true rfl, Nat.le_of_ble_eq_true rfl⟩) ⟨fun a U g mk q => by obtain ⟨q0, q1, qP, qK, qD⟩ := q; exact ⟨q0, q1, qP, va_K.moved (u := U) (U := U.calling g mk a) (Vm.Alike.refl U.vm) qK, qD⟩, va_recv hK hP (ci := 1) (q0 := 1) rfl rfl, fun U hU hW => ⟨rfl, by rw [hU], by rw [hU]; exact hPc, va_K.moved hW.alike hK, hDc.weaken (fun _ _ _ _ => trivial)⟩⟩ rfl rfl hl.1 rfl (lv_room (Nat.le_of_ble_eq_true rfl)) dX10_solid_54 ⟨Nat.le_of_ble_eq_true rfl, Nat.le_of_ble_eq_true rfl⟩) hS (fun q _ h => hFc q h) hFc (fun r_6 u t H1 locs ht hvm hw hB hz1 hk1 hS => ?_)
      obtain ⟨hP1, hK1, hD1⟩ := hB
      rw [ht] at hP1
      obtain ⟨hP, hD⟩ := va_join (wr := [(x0, .inr (10, [.ref xTape, .ref xReader, .ref xBag, .ref xBld, .ref xAng, .ref xSum, .ref xPik, .int 0, .ref xHan, .ref xIns, .ref xShr, .ref xSta, .ref xTur])), (xSum, .inr (8, [.ref sM, .ref sP, .ref sA, .int 0]))]) (w1 := [(xBag, .inr (1, [.ref bC, .ref bS, .ref bX, .ref bW, .ref bP, .int 0]))]) hP hD [1] [0, 2] rfl rfl (by decide) (by decide) hk1 hFc hP1 hD1
      generalize H1 = H at hP hS ⊢
      have hP : va_P (dC, dI) vwCl [(x0, .inr (10, [.ref xTape, .ref xReader, .ref xBag, .ref xBld, .ref xAng, .ref xSum, .ref xPik, .int 0, .ref xHan, .ref xIns, .ref xShr, .ref xSta, .ref xTur])), (xSum, .inr (8, [.ref sM, .ref sP, .ref sA, .int 0])), (xBag, .inr (1, [.ref bC, .ref bS, .ref bX, .ref bW, .ref bP, .int 0]))] H := hP
      have hD : va_D A [(x0, .inr (10, [.ref xTape, .ref xReader, .ref xBag, .ref xBld, .ref xAng, .ref xSum, .ref xPik, .int 0, .ref xHan, .ref xIns, .ref xShr, .ref xSta, .ref xTur])), (xSum, .inr (8, [.ref sM, .ref sP, .ref sA, .int 0])), (xBag, .inr (1, [.ref bC, .ref bS, .ref bX, .ref bW, .ref bP, .int 0]))] := hD
      have hr_6 := hw
      obtain rfl : r_6 = 0 := hr_6
      refine W.widen (k := 0) (n := 0) (Nat.le_of_ble_eq_true rfl) (Nat.le_of_ble_eq_true rfl) ?_
      exact W.iret (v := 0) hx hb hr (fun t ht hW => ⟨⟨0, (), rfl, (by (try simp only [nk_lt, nk_le, nk_eq, nk_wd, nk_c0, nk_c1, nk_c2, nk_c3, nk_c4, nk_c5, nk_c6, nk_c15, nk_c16, nk_c24, nk_c47, nk_c48, nk_c600, nk_c1728, nk_m1, nk_l0, nk_l1, nk_l2, nk_l3, nk_l5, nk_l15, nk_l24, nk_l47] at k_2 s_3); (unfold sp_valid; first | rfl | decide | (rw [if_pos (by first | omega | (simp only [nk_lt, nk_le, nk_eq, nk_wd, nk_c0, nk_c1, nk_c2, nk_c3, nk_c4, nk_c5, nk_c6, nk_c15, nk_c16, nk_c24, nk_c47, nk_c48, nk_c600, nk_c1728, nk_m1, nk_l0, nk_l1, nk_l2, nk_l3, nk_l5, nk_l15, nk_l24, nk_l47]; omega) | (simp only [nk_lt, nk_le, nk_eq, nk_wd, nk_c0, nk_c1, nk_c2, nk_c3, nk_c4, nk_c5, nk_c6, nk_c15, nk_c16, nk_c24, nk_c47, nk_c48, nk_c600, nk_c1728, nk_m1, nk_l0, nk_l1, nk_l2, nk_l3, nk_l5, nk_l15, nk_l24, nk_l47]; done))]) | (rw [if_neg (by first | omega | (simp only [nk_lt, nk_le, nk_eq, nk_wd, nk_c0, nk_c1, nk_c2, nk_c3, nk_c4, nk_c5, nk_c6, nk_c15, nk_c16, nk_c24, nk_c47, nk_c48, nk_c600, nk_c1728, nk_m1, nk_l0, nk_l1, nk_l2, nk_l3, nk_l5, nk_l15, nk_l24, nk_l47]; omega) | (simp only [nk_lt, nk_le, nk_eq, nk_wd, nk_c0, nk_c1, nk_c2, nk_c3, nk_c4, nk_c5, nk_c6, nk_c15, nk_c16, nk_c24, nk_c47, nk_c48, nk_c600, nk_c1728, nk_m1, nk_l0, nk_l1, nk_l2, nk_l3, nk_l5, nk_l15, nk_l24, nk_l47]; done))]))), trivial⟩, hS.F ht⟩) hS.2.2 dX10_solid_57
    by_cases s_7 : p1 = 2
    · subst s_7
      refine lv_tableIn (off := 48) (tgt := 58) hx hb dX10_solid_10 (by decide) (by decide) (by decide) (by decide) ?_
      refine lv_aload_n hx hb dX10_solid_58 rfl (lv_at hl 0 rfl) ?_
      refine lv_iload_n hx hb dX10_solid_59 rfl (lv_at hl 1 rfl) ?_
      have hPc := hP.sub (ws' := [(x0, .inr (10, [.ref xTape, .ref xReader, .ref xBag, .ref xBld, .ref xAng, .ref xSum, .ref xPik, .int 0, .ref xHan, .ref xIns, .ref xShr, .ref xSta, .ref xTur])), (xBag, .inr (1, [.ref bC, .ref bS, .ref bX, .ref bW, .ref bP, .int 0]))]) [0, 1] rfl
      have hDc := hD.sub (ws' := [(x0, .inr (10, [.ref xTape, .ref xReader, .ref xBag, .ref xBld, .ref xAng, .ref xSum, .ref xPik, .int 0, .ref xHan, .ref xIns, .ref xShr, .ref xSta, .ref xTur])), (xBag, .inr (1, [.ref bC, .ref bS, .ref bX, .ref bW, .ref bP, .int 0]))]) [0, 1] (by decide) rfl
      have hFc := va_free (wc := [(x0, .inr (10, [.ref xTape, .ref xReader, .ref xBag, .ref xBld, .ref xAng, .ref xSum, .ref xPik, .int 0, .ref xHan, .ref xIns, .ref xShr, .ref xSta, .ref xTur])), (xBag, .inr (1, [.ref bC, .ref bS, .ref bX, .ref bW, .ref bP, .int 0]))]) hD hS hA [0, 1] rfl
      refine va_calli (va_runV (As := [.int p0]) (rest := []) ⟨hx, hb, hml, hown, hts⟩ (c_X10_oddEdges l dC dI cB cI cJ H.size x0 xTape xReader xBag xBld xAng xSum xPik xHan xIns xShr xSta xTur bC bS bX bW bP p0) (cwV 1 hts gX10_solid_X10_oddEdges rfl rfl rfl (by decide +kernel) ⟨Nat.le_of_ble_eq_true rfl, Nat.le_of_ble_eq_true rfl⟩) ⟨fun a U g mk q => by obtain ⟨q0, q1, qP, qK, qD⟩ := q; exact ⟨q0, q1, qP, va_K.moved (u := U) (U := U.calling g mk a) (Vm.Alike.refl U.vm) qK, qD⟩, va_recv hK hP (ci := 10) (q0 := 0) rfl rfl, fun U hU hW => ⟨rfl, by rw [hU], by rw [hU]; exact hPc, va_K.moved hW.alike hK, hDc.weaken (fun _ _ _ _ => trivial)⟩⟩ rfl rfl hl.1 rfl (lv_room (Nat.le_of_ble_eq_true rfl)) dX10_solid_60 ⟨Nat.le_of_ble_eq_true rfl, Nat.le_of_ble_eq_true rfl⟩) hS (fun q _ h => hFc q h) hFc (fun r_8 u t H1 locs ht hvm hw hB hz1 hk1 hS => ?_)
      obtain ⟨hP1, hK1, hD1⟩ := hB
      rw [ht] at hP1
      obtain ⟨hP, hD⟩ := va_join (wr := [(xSum, .inr (8, [.ref sM, .ref sP, .ref sA, .int 0]))]) (w1 := [(x0, .inr (10, [.ref xTape, .ref xReader, .ref xBag, .ref xBld, .ref xAng, .ref xSum, .ref xPik, .int 0, .ref xHan, .ref xIns, .ref xShr, .ref xSta, .ref xTur])), (xBag, .inr (1, [.ref bC, .ref bS, .ref bX, .ref bW, .ref bP, .int 0]))]) hP hD [0, 1] [2] rfl rfl (by decide) (by decide) hk1 hFc hP1 hD1
      generalize H1 = H at hP hS ⊢
      have hP : va_P (dC, dI) vwCl [(xSum, .inr (8, [.ref sM, .ref sP, .ref sA, .int 0])), (x0, .inr (10, [.ref xTape, .ref xReader, .ref xBag, .ref xBld, .ref xAng, .ref xSum, .ref xPik, .int 0, .ref xHan, .ref xIns, .ref xShr, .ref xSta, .ref xTur])), (xBag, .inr (1, [.ref bC, .ref bS, .ref bX, .ref bW, .ref bP, .int 0]))] H := hP
      have hD : va_D A [(xSum, .inr (8, [.ref sM, .ref sP, .ref sA, .int 0])), (x0, .inr (10, [.ref xTape, .ref xReader, .ref xBag, .ref xBld, .ref xAng, .ref xSum, .ref xPik, .int 0, .ref xHan, .ref xIns, .ref xShr, .ref xSta, .ref xTur])), (xBag, .inr (1, [.ref bC, .ref bS, .ref bX, .ref bW, .ref bP, .int 0]))] := hD
      have hr_8 := hw
      obtain rfl : r_8 = 0 := hr_8
      refine W.widen (k := 0) (n := 0) (Nat.le_of_ble_eq_true rfl) (Nat.le_of_ble_eq_true rfl) ?_
      exact W.iret (v := 0) hx hb hr (fun t ht hW => ⟨⟨0, (), rfl, (by (try simp only [nk_lt, nk_le, nk_eq, nk_wd, nk_c0, nk_c1, nk_c2, nk_c3, nk_c4, nk_c5, nk_c6, nk_c15, nk_c16, nk_c24, nk_c47, nk_c48, nk_c600, nk_c1728, nk_m1, nk_l0, nk_l1, nk_l2, nk_l3, nk_l5, nk_l15, nk_l24, nk_l47] at k_2 s_3 s_5); (unfold sp_valid; first | rfl | decide | (rw [if_pos (by first | omega | (simp only [nk_lt, nk_le, nk_eq, nk_wd, nk_c0, nk_c1, nk_c2, nk_c3, nk_c4, nk_c5, nk_c6, nk_c15, nk_c16, nk_c24, nk_c47, nk_c48, nk_c600, nk_c1728, nk_m1, nk_l0, nk_l1, nk_l2, nk_l3, nk_l5, nk_l15, nk_l24, nk_l47]; omega) | (simp only [nk_lt, nk_le, nk_eq, nk_wd, nk_c0, nk_c1, nk_c2, nk_c3, nk_c4, nk_c5, nk_c6, nk_c15, nk_c16, nk_c24, nk_c47, nk_c48, nk_c600, nk_c1728, nk_m1, nk_l0, nk_l1, nk_l2, nk_l3, nk_l5, nk_l15, nk_l24, nk_l47]; done))]) | (rw [if_neg (by first | omega | (simp only [nk_lt, nk_le, nk_eq, nk_wd, nk_c0, nk_c1, nk_c2, nk_c3, nk_c4, nk_c5, nk_c6, nk_c15, nk_c16, nk_c24, nk_c47, nk_c48, nk_c600, nk_c1728, nk_m1, nk_l0, nk_l1, nk_l2, nk_l3, nk_l5, nk_l15, nk_l24, nk_l47]; omega) | (simp only [nk_lt, nk_le, nk_eq, nk_wd, nk_c0, nk_c1, nk_c2, nk_c3, nk_c4, nk_c5, nk_c6, nk_c15, nk_c16, nk_c24, nk_c47, nk_c48, nk_c600, nk_c1728, nk_m1, nk_l0, nk_l1, nk_l2, nk_l3, nk_l5, nk_l15, nk_l24, nk_l47]; done))]))), trivial⟩, hS.F ht⟩) hS.2.2 dX10_solid_63
    by_cases s_9 : p1 = 3
    · subst s_9
      refine lv_tableIn (off := 54) (tgt := 64) hx hb dX10_solid_10 (by decide) (by decide) (by decide) (by decide) ?_
      refine lv_aload_n hx hb dX10_solid_64 rfl (lv_at hl 0 rfl) ?_
      refine va_get (D := (dC, dI)) (ci := 10) (v := .ref xSum) (C := RX10) (T := TX10) (N := 13) hx hb hts hiX10 hown hK hP 0 rfl rfl 5 (by decide) (hts (.fieldLink RX10 51 "ScissorsTable" "sums" "LScissorsTable$Sums;") (by decide +kernel)) (fun _ h9 => h9) rfl dX10_solid_65 ?_
      refine lv_iload_n hx hb dX10_solid_68 rfl (lv_at hl 1 rfl) ?_
      have hPc := hP.sub (ws' := [(xSum, .inr (8, [.ref sM, .ref sP, .ref sA, .int 0]))]) [2] rfl
      have hDc := hD.sub (ws' := [(xSum, .inr (8, [.ref sM, .ref sP, .ref sA, .int 0]))]) [2] (by decide) rfl
      have hFc := va_free (wc := [(xSum, .inr (8, [.ref sM, .ref sP, .ref sA, .int 0]))]) hD hS hA [2] rfl
      refine va_calli (va_runV (As := [.int p0]) (rest := []) ⟨hx, hb, hml, hown, hts⟩ (c_X8_terms l dC dI cB cI cJ H.size xSum sM sP sA p0) (cwV 1 hts gX10_solid_X8_terms rfl rfl rfl (by decide +kernel) ⟨Nat.le_of_ble_eq_true rfl, Nat.le_of_ble_eq_true rfl⟩) ⟨fun a U g mk q => by obtain ⟨q0, q1, qP, qK, qD⟩ := q; exact ⟨q0, q1, qP, va_K.moved (u := U) (U := U.calling g mk a) (Vm.Alike.refl U.vm) qK, qD⟩, va_recv hK hP (ci := 8) (q0 := 2) rfl rfl, fun U hU hW => ⟨rfl, by rw [hU], by rw [hU]; exact hPc, va_K.moved hW.alike hK, hDc.weaken (fun _ _ _ _ => trivial)⟩⟩ rfl rfl hl.1 rfl (lv_room (Nat.le_of_ble_eq_true rfl)) dX10_solid_69 ⟨Nat.le_of_ble_eq_true rfl, Nat.le_of_ble_eq_true rfl⟩) hS (fun q _ h => hFc q h) hFc (fun r_10 u t H1 locs ht hvm hw hB hz1 hk1 hS => ?_)
      have hP1 : va_P (dC, dI) vwCl [] H1 := fun k q h => by simp at h
      have hD1 : va_D (va_A [(xSum, .inr (8, [.ref sM, .ref sP, .ref sA, .int 0]))] H.size) [] := ⟨fun i j p q h => by simp at h, fun k q h => by simp at h⟩
      obtain ⟨hP, hD⟩ := va_join (wr := [(x0, .inr (10, [.ref xTape, .ref xReader, .ref xBag, .ref xBld, .ref xAng, .ref xSum, .ref xPik, .int 0, .ref xHan, .ref xIns, .ref xShr, .ref xSta, .ref xTur])), (xBag, .inr (1, [.ref bC, .ref bS, .ref bX, .ref bW, .ref bP, .int 0]))]) (w1 := []) hP hD [2] [0, 1] rfl rfl (by decide) (by decide) hk1 hFc hP1 hD1
      generalize H1 = H at hP hS ⊢
      have hP : va_P (dC, dI) vwCl [(x0, .inr (10, [.ref xTape, .ref xReader, .ref xBag, .ref xBld, .ref xAng, .ref xSum, .ref xPik, .int 0, .ref xHan, .ref xIns, .ref xShr, .ref xSta, .ref xTur])), (xBag, .inr (1, [.ref bC, .ref bS, .ref bX, .ref bW, .ref bP, .int 0]))] H := hP
      have hD : va_D A [(x0, .inr (10, [.ref xTape, .ref xReader, .ref xBag, .ref xBld, .ref xAng, .ref xSum, .ref xPik, .int 0, .ref xHan, .ref xIns, .ref xShr, .ref xSta, .ref xTur])), (xBag, .inr (1, [.ref bC, .ref bS, .ref bX, .ref bW, .ref bP, .int 0]))] := hD
      have hr_10 := hw
      obtain rfl : r_10 = 0 := hr_10
      refine W.widen (k := 0) (n := 0) (Nat.le_of_ble_eq_true rfl) (Nat.le_of_ble_eq_true rfl) ?_
      exact W.iret (v := 0) hx hb hr (fun t ht hW => ⟨⟨0, (), rfl, (by (try simp only [nk_lt, nk_le, nk_eq, nk_wd, nk_c0, nk_c1, nk_c2, nk_c3, nk_c4, nk_c5, nk_c6, nk_c15, nk_c16, nk_c24, nk_c47, nk_c48, nk_c600, nk_c1728, nk_m1, nk_l0, nk_l1, nk_l2, nk_l3, nk_l5, nk_l15, nk_l24, nk_l47] at k_2 s_3 s_5 s_7); (unfold sp_valid; first | rfl | decide | (rw [if_pos (by first | omega | (simp only [nk_lt, nk_le, nk_eq, nk_wd, nk_c0, nk_c1, nk_c2, nk_c3, nk_c4, nk_c5, nk_c6, nk_c15, nk_c16, nk_c24, nk_c47, nk_c48, nk_c600, nk_c1728, nk_m1, nk_l0, nk_l1, nk_l2, nk_l3, nk_l5, nk_l15, nk_l24, nk_l47]; omega) | (simp only [nk_lt, nk_le, nk_eq, nk_wd, nk_c0, nk_c1, nk_c2, nk_c3, nk_c4, nk_c5, nk_c6, nk_c15, nk_c16, nk_c24, nk_c47, nk_c48, nk_c600, nk_c1728, nk_m1, nk_l0, nk_l1, nk_l2, nk_l3, nk_l5, nk_l15, nk_l24, nk_l47]; done))]) | (rw [if_neg (by first | omega | (simp only [nk_lt, nk_le, nk_eq, nk_wd, nk_c0, nk_c1, nk_c2, nk_c3, nk_c4, nk_c5, nk_c6, nk_c15, nk_c16, nk_c24, nk_c47, nk_c48, nk_c600, nk_c1728, nk_m1, nk_l0, nk_l1, nk_l2, nk_l3, nk_l5, nk_l15, nk_l24, nk_l47]; omega) | (simp only [nk_lt, nk_le, nk_eq, nk_wd, nk_c0, nk_c1, nk_c2, nk_c3, nk_c4, nk_c5, nk_c6, nk_c15, nk_c16, nk_c24, nk_c47, nk_c48, nk_c600, nk_c1728, nk_m1, nk_l0, nk_l1, nk_l2, nk_l3, nk_l5, nk_l15, nk_l24, nk_l47]; done))]))), trivial⟩, hS.F ht⟩) hS.2.2 dX10_solid_72
    refine lv_tableOut (tgt := 73) hx hb dX10_solid_10 (nk_sw p1 4 (by decide) (fun j hj => match j, hj with | 0, _ => fun e => s_3 (e.trans (by decide)) | 1, _ => fun e => s_5 (e.trans (by decide)) | 2, _ => fun e => s_7 (e.trans (by decide)) | 3, _ => fun e => s_9 (e.trans (by decide)) | k + 4, h => absurd h (by omega))) (by decide) ?_
    refine lv_iconst (v := (-1)) hx hb dX10_solid_73 (by decide) ?_
    refine W.widen (k := 0) (n := 0) (Nat.le_of_ble_eq_true rfl) (Nat.le_of_ble_eq_true rfl) ?_
    exact W.iret (v := (-1)) hx hb hr (fun t ht hW => ⟨⟨(-1), (), rfl, (by (try simp only [nk_lt, nk_le, nk_eq, nk_wd, nk_c0, nk_c1, nk_c2, nk_c3, nk_c4, nk_c5, nk_c6, nk_c15, nk_c16, nk_c24, nk_c47, nk_c48, nk_c600, nk_c1728, nk_m1, nk_l0, nk_l1, nk_l2, nk_l3, nk_l5, nk_l15, nk_l24, nk_l47] at k_2 s_3 s_5 s_7 s_9); (unfold sp_valid; first | rfl | decide | (rw [if_pos (by first | omega | (simp only [nk_lt, nk_le, nk_eq, nk_wd, nk_c0, nk_c1, nk_c2, nk_c3, nk_c4, nk_c5, nk_c6, nk_c15, nk_c16, nk_c24, nk_c47, nk_c48, nk_c600, nk_c1728, nk_m1, nk_l0, nk_l1, nk_l2, nk_l3, nk_l5, nk_l15, nk_l24, nk_l47]; omega) | (simp only [nk_lt, nk_le, nk_eq, nk_wd, nk_c0, nk_c1, nk_c2, nk_c3, nk_c4, nk_c5, nk_c6, nk_c15, nk_c16, nk_c24, nk_c47, nk_c48, nk_c600, nk_c1728, nk_m1, nk_l0, nk_l1, nk_l2, nk_l3, nk_l5, nk_l15, nk_l24, nk_l47]; done))]) | (rw [if_neg (by first | omega | (simp only [nk_lt, nk_le, nk_eq, nk_wd, nk_c0, nk_c1, nk_c2, nk_c3, nk_c4, nk_c5, nk_c6, nk_c15, nk_c16, nk_c24, nk_c47, nk_c48, nk_c600, nk_c1728, nk_m1, nk_l0, nk_l1, nk_l2, nk_l3, nk_l5, nk_l15, nk_l24, nk_l47]; omega) | (simp only [nk_lt, nk_le, nk_eq, nk_wd, nk_c0, nk_c1, nk_c2, nk_c3, nk_c4, nk_c5, nk_c6, nk_c15, nk_c16, nk_c24, nk_c47, nk_c48, nk_c600, nk_c1728, nk_m1, nk_l0, nk_l1, nk_l2, nk_l3, nk_l5, nk_l15, nk_l24, nk_l47]; done))]))), trivial⟩, hS.F ht⟩) hS.2.2 dX10_solid_74
set_option maxHeartbeats 4000000 in
set_option maxRecDepth 100000 in
theorem c_X10_tetsWithPoints (l : Launch) (dC : Nat → ClassId) (dI : Nat → Nat → Nat) (cB cI cJ : ClassId) (sz : Nat) (x0 xTape xReader xBag xBld xAng xSum xPik xHan xIns xShr xSta xTur bC bS bX bW bP : Nat) : Met l yX10_tetsWithPoints wsX10_tetsWithPoints ({ frames := 1, cells := 0, slots := 0, locals := 24 }) (va_Pc [.ref x0] (fun U => U.heap.size = sz ∧ va_P (dC, dI) vwCl [(x0, .inr (10, [.ref xTape, .ref xReader, .ref xBag, .ref xBld, .ref xAng, .ref xSum, .ref xPik, .int 0, .ref xHan, .ref xIns, .ref xShr, .ref xSta, .ref xTur])), (xBag, .inr (1, [.ref bC, .ref bS, .ref bX, .ref bW, .ref bP, .int 0]))] U.heap ∧ va_K (dC, dI) vwCl [(cB, .byte), (cI, .int), (cJ, .long)] U ∧ va_D (fun _ => True) [(x0, .inr (10, [.ref xTape, .ref xReader, .ref xBag, .ref xBld, .ref xAng, .ref xSum, .ref xPik, .int 0, .ref xHan, .ref xIns, .ref xShr, .ref xSta, .ref xTur])), (xBag, .inr (1, [.ref bC, .ref bS, .ref bX, .ref bW, .ref bP, .int 0]))])) (va_Qi (fun (r : Int32) (_ : Unit) => r = 0) (fun _ _ => True) (va_A [(x0, .inr (10, [.ref xTape, .ref xReader, .ref xBag, .ref xBld, .ref xAng, .ref xSum, .ref xPik, .int 0, .ref xHan, .ref xIns, .ref xShr, .ref xSta, .ref xTur])), (xBag, .inr (1, [.ref bC, .ref bS, .ref bX, .ref bW, .ref bP, .int 0]))] sz)) 0 0 (va_A [(x0, .inr (10, [.ref xTape, .ref xReader, .ref xBag, .ref xBld, .ref xAng, .ref xSum, .ref xPik, .int 0, .ref xHan, .ref xIns, .ref xShr, .ref xSta, .ref xTur])), (xBag, .inr (1, [.ref bC, .ref bS, .ref bX, .ref bW, .ref bP, .int 0]))] sz) := by
  refine Met.ofW (cc := cX10_tetsWithPoints) (maxL := 3) (ret := (some .int)) (by decide) rfl ?_
  intro p e s m args below meth c s₁ B hml hv
  obtain ⟨rfl, hsz, hP, hK, hD0⟩ := hv
  have hx := B.exec
  have hb := B.bytes
  have hr := B.returns
  have hts := atoms_spec (ws := wsX10_tetsWithPoints) B.pre
  have hown : s.vm.findClass RX10 = some m.cls := findClass_of_methodNamed B.named
  have hlocks := B.notSynchronized
  have hiX1 : ∀ w ∈ u_ws RX1 TX1 6, w ∈ wsX10_tetsWithPoints := by decide +kernel
  have hiX10 : ∀ w ∈ u_ws RX10 TX10 13, w ∈ wsX10_tetsWithPoints := by decide +kernel
  subst hsz
  have hD := hD0.self (sz := s.heap.size)
  generalize hAe : va_A [(x0, .inr (10, [.ref xTape, .ref xReader, .ref xBag, .ref xBld, .ref xAng, .ref xSum, .ref xPik, .int 0, .ref xHan, .ref xIns, .ref xShr, .ref xSta, .ref xTur])), (xBag, .inr (1, [.ref bC, .ref bS, .ref bX, .ref bW, .ref bP, .int 0]))] s.heap.size = A at hD ⊢
  have hA : ∀ q : Nat, s.heap.size ≤ q → A q := fun q h => by rw [← hAe]; exact Or.inr h
  have hS : va_S A s.heap s.heap [] := va_S.rf
  have hP : va_P (dC, dI) vwCl [(x0, .inr (10, [.ref xTape, .ref xReader, .ref xBag, .ref xBld, .ref xAng, .ref xSum, .ref xPik, .int 0, .ref xHan, .ref xIns, .ref xShr, .ref xSta, .ref xTur])), (xBag, .inr (1, [.ref bC, .ref bS, .ref bX, .ref bW, .ref bP, .int 0]))] s.heap := hP
  have hl := lv_entry ([.ref x0]) (n := 3) (Nat.le_of_ble_eq_true rfl)
  rw [lg_entry_eq]
  generalize (lg_sl ([.ref x0]) ++ List.replicate (3 - (lg_sl ([.ref x0])).length) Slot.unset).toArray = ls at hl ⊢
  have hl : lv_has ls 3 [(0, .ref x0)] := hl
  refine lv_iconst (v := 0) hx hb dX10_tetsWithPoints_0 (by decide) ?_
  refine lv_istore_n (lv' := [(1, .int 0), (0, .ref x0)]) hx hb dX10_tetsWithPoints_1 rfl hl (by decide) rfl (fun ls hl => ?_)
  refine lv_iconst (v := 0) hx hb dX10_tetsWithPoints_2 (by decide) ?_
  refine lv_istore_n (lv' := [(2, .int 0), (1, .int 0), (0, .ref x0)]) hx hb dX10_tetsWithPoints_3 rfl hl (by decide) rfl (fun ls hl => ?_)
  refine lv_iload_n hx hb dX10_tetsWithPoints_4 rfl (lv_at hl 0 rfl) ?_
  refine lv_aload_n hx hb dX10_tetsWithPoints_5 rfl (lv_at hl 2 rfl) ?_
  refine va_get (D := (dC, dI)) (ci := 10) (v := .ref xBag) (C := RX10) (T := TX10) (N := 13) hx hb hts hiX10 hown hK hP 0 rfl rfl 2 (by decide) (hts (.fieldLink RX10 28 "ScissorsTable" "bag" "LScissorsTable$Bag;") (by decide +kernel)) (fun _ h9 => h9) rfl dX10_tetsWithPoints_6 ?_
  refine va_get (D := (dC, dI)) (ci := 1) (v := .int 0) (C := RX1) (T := TX1) (N := 6) hx hb hts hiX1 hown hK hP 1 rfl rfl 5 (by decide) (hts (.fieldLink RX10 108 "ScissorsTable$Bag" "size" "I") (by decide +kernel)) (fun _ h9 => h9) rfl dX10_tetsWithPoints_9 ?_
  refine lv_icmp_ge (tgt := 58) hx hb dX10_tetsWithPoints_12 (by decide) (fun _ => ?_) (fun c => absurd (by decide) c)
  refine lv_iload_n hx hb dX10_tetsWithPoints_58 rfl (lv_at hl 1 rfl) ?_
  refine W.widen (k := 0) (n := 0) (Nat.le_of_ble_eq_true rfl) (Nat.le_of_ble_eq_true rfl) ?_
  exact W.iret (v := 0) hx hb hr (fun t ht hW => ⟨⟨0, (), rfl, rfl, trivial⟩, hS.F ht⟩) hS.2.2 dX10_tetsWithPoints_59
set_option maxHeartbeats 4000000 in
set_option maxRecDepth 100000 in
theorem c_X10_solidsWithoutSum (l : Launch) (dC : Nat → ClassId) (dI : Nat → Nat → Nat) (cB cI cJ : ClassId) (sz : Nat) (x0 xTape xReader xBag xBld xAng xSum xPik xHan xIns xShr xSta xTur sM sP sA : Nat) : Met l yX10_solidsWithoutSum wsX10_solidsWithoutSum ({ frames := 2, cells := 0, slots := 0, locals := 48 }) (va_Pc [.ref x0] (fun U => U.heap.size = sz ∧ va_P (dC, dI) vwCl [(x0, .inr (10, [.ref xTape, .ref xReader, .ref xBag, .ref xBld, .ref xAng, .ref xSum, .ref xPik, .int 0, .ref xHan, .ref xIns, .ref xShr, .ref xSta, .ref xTur])), (xSum, .inr (8, [.ref sM, .ref sP, .ref sA, .int 0]))] U.heap ∧ va_K (dC, dI) vwCl [(cB, .byte), (cI, .int), (cJ, .long)] U ∧ va_D (fun _ => True) [(x0, .inr (10, [.ref xTape, .ref xReader, .ref xBag, .ref xBld, .ref xAng, .ref xSum, .ref xPik, .int 0, .ref xHan, .ref xIns, .ref xShr, .ref xSta, .ref xTur])), (xSum, .inr (8, [.ref sM, .ref sP, .ref sA, .int 0]))])) (va_Qi (fun (r : Int32) (_ : Unit) => r = 15) (fun _ _ => True) (va_A [(x0, .inr (10, [.ref xTape, .ref xReader, .ref xBag, .ref xBld, .ref xAng, .ref xSum, .ref xPik, .int 0, .ref xHan, .ref xIns, .ref xShr, .ref xSta, .ref xTur])), (xSum, .inr (8, [.ref sM, .ref sP, .ref sA, .int 0]))] sz)) 0 0 (va_A [(x0, .inr (10, [.ref xTape, .ref xReader, .ref xBag, .ref xBld, .ref xAng, .ref xSum, .ref xPik, .int 0, .ref xHan, .ref xIns, .ref xShr, .ref xSta, .ref xTur])), (xSum, .inr (8, [.ref sM, .ref sP, .ref sA, .int 0]))] sz) := by
  refine Met.ofW (cc := cX10_solidsWithoutSum) (maxL := 3) (ret := (some .int)) (by decide) rfl ?_
  intro p e s m args below meth c s₁ B hml hv
  obtain ⟨rfl, hsz, hP, hK, hD0⟩ := hv
  have hx := B.exec
  have hb := B.bytes
  have hr := B.returns
  have hts := atoms_spec (ws := wsX10_solidsWithoutSum) B.pre
  have hown : s.vm.findClass RX10 = some m.cls := findClass_of_methodNamed B.named
  have hlocks := B.notSynchronized
  have hiX10 : ∀ w ∈ u_ws RX10 TX10 13, w ∈ wsX10_solidsWithoutSum := by decide +kernel
  subst hsz
  have hD := hD0.self (sz := s.heap.size)
  generalize hAe : va_A [(x0, .inr (10, [.ref xTape, .ref xReader, .ref xBag, .ref xBld, .ref xAng, .ref xSum, .ref xPik, .int 0, .ref xHan, .ref xIns, .ref xShr, .ref xSta, .ref xTur])), (xSum, .inr (8, [.ref sM, .ref sP, .ref sA, .int 0]))] s.heap.size = A at hD ⊢
  have hA : ∀ q : Nat, s.heap.size ≤ q → A q := fun q h => by rw [← hAe]; exact Or.inr h
  have hS : va_S A s.heap s.heap [] := va_S.rf
  have hP : va_P (dC, dI) vwCl [(x0, .inr (10, [.ref xTape, .ref xReader, .ref xBag, .ref xBld, .ref xAng, .ref xSum, .ref xPik, .int 0, .ref xHan, .ref xIns, .ref xShr, .ref xSta, .ref xTur])), (xSum, .inr (8, [.ref sM, .ref sP, .ref sA, .int 0]))] s.heap := hP
  have hl := lv_entry ([.ref x0]) (n := 3) (Nat.le_of_ble_eq_true rfl)
  rw [lg_entry_eq]
  generalize (lg_sl ([.ref x0]) ++ List.replicate (3 - (lg_sl ([.ref x0])).length) Slot.unset).toArray = ls at hl ⊢
  have hl : lv_has ls 3 [(0, .ref x0)] := hl
  refine lv_iconst (v := 0) hx hb dX10_solidsWithoutSum_0 (by decide) ?_
  refine lv_istore_n (lv' := [(1, .int 0), (0, .ref x0)]) hx hb dX10_solidsWithoutSum_1 rfl hl (by decide) rfl (fun ls hl => ?_)
  refine lv_iconst (v := 0) hx hb dX10_solidsWithoutSum_2 (by decide) ?_
  refine lv_istore_n (lv' := [(2, .int 0), (1, .int 0), (0, .ref x0)]) hx hb dX10_solidsWithoutSum_3 rfl hl (by decide) rfl (fun ls hl => ?_)
  refine lv_iload_n hx hb dX10_solidsWithoutSum_4 rfl (lv_at hl 0 rfl) ?_
  refine lv_iconst (v := 4) hx hb dX10_solidsWithoutSum_5 (by decide) ?_
  refine lv_icmp_ge (tgt := 37) hx hb dX10_solidsWithoutSum_6 (by decide) (fun c => absurd c (by decide)) (fun _ => ?_)
  refine lv_iload_n hx hb dX10_solidsWithoutSum_9 rfl (lv_at hl 1 rfl) ?_
  refine lv_aload_n hx hb dX10_solidsWithoutSum_10 rfl (lv_at hl 2 rfl) ?_
  refine va_get (D := (dC, dI)) (ci := 10) (v := .ref xSum) (C := RX10) (T := TX10) (N := 13) hx hb hts hiX10 hown hK hP 0 rfl rfl 5 (by decide) (hts (.fieldLink RX10 51 "ScissorsTable" "sums" "LScissorsTable$Sums;") (by decide +kernel)) (fun _ h9 => h9) rfl dX10_solidsWithoutSum_11 ?_
  refine lv_iload_n hx hb dX10_solidsWithoutSum_14 rfl (lv_at hl 0 rfl) ?_
  refine lv_iconst (v := 0) hx hb dX10_solidsWithoutSum_15 (by decide) ?_
  have hPc := hP.sub (ws' := [(xSum, .inr (8, [.ref sM, .ref sP, .ref sA, .int 0]))]) [1] rfl
  have hDc := hD.sub (ws' := [(xSum, .inr (8, [.ref sM, .ref sP, .ref sA, .int 0]))]) [1] (by decide) rfl
  have hFc := va_free (wc := [(xSum, .inr (8, [.ref sM, .ref sP, .ref sA, .int 0]))]) hD hS hA [1] rfl
  refine va_calli (va_runV (As := [.int 0, .int 0]) (rest := [.int 0]) ⟨hx, hb, hml, hown, hts⟩ (c_X8_rowOfTerm l dC dI cB cI cJ s.heap.size xSum sM sP sA 0 0) (cwV 2 hts gX10_solidsWithoutSum_X8_rowOfTerm rfl rfl rfl (by decide +kernel) ⟨Nat.le_of_ble_eq_true rfl, Nat.le_of_ble_eq_true rfl⟩) ⟨fun a U g mk q => by obtain ⟨q0, q1, qP, qK, qD⟩ := q; exact ⟨q0, q1, qP, va_K.moved (u := U) (U := U.calling g mk a) (Vm.Alike.refl U.vm) qK, qD⟩, va_recv hK hP (ci := 8) (q0 := 1) rfl rfl, fun U hU hW => ⟨rfl, by rw [hU], by rw [hU]; exact hPc, va_K.moved hW.alike hK, hDc.weaken (fun _ _ _ _ => trivial)⟩⟩ rfl rfl hl.1 rfl (lv_room (Nat.le_of_ble_eq_true rfl)) dX10_solidsWithoutSum_16 ⟨Nat.le_of_ble_eq_true rfl, Nat.le_of_ble_eq_true rfl⟩) hS (fun q _ h => hFc q h) hFc (fun r_1 u t H1 locs ht hvm hw hB hz1 hk1 hS => ?_)
  obtain ⟨hP1, hK1, hD1⟩ := hB
  rw [ht] at hP1
  obtain ⟨hP, hD⟩ := va_join (wr := [(x0, .inr (10, [.ref xTape, .ref xReader, .ref xBag, .ref xBld, .ref xAng, .ref xSum, .ref xPik, .int 0, .ref xHan, .ref xIns, .ref xShr, .ref xSta, .ref xTur]))]) (w1 := [(xSum, .inr (8, [.ref sM, .ref sP, .ref sA, .int 0]))]) hP hD [1] [0] rfl rfl (by decide) (by decide) hk1 hFc hP1 hD1
  generalize H1 = H at hP hS ⊢
  have hP : va_P (dC, dI) vwCl [(x0, .inr (10, [.ref xTape, .ref xReader, .ref xBag, .ref xBld, .ref xAng, .ref xSum, .ref xPik, .int 0, .ref xHan, .ref xIns, .ref xShr, .ref xSta, .ref xTur])), (xSum, .inr (8, [.ref sM, .ref sP, .ref sA, .int 0]))] H := hP
  have hD : va_D A [(x0, .inr (10, [.ref xTape, .ref xReader, .ref xBag, .ref xBld, .ref xAng, .ref xSum, .ref xPik, .int 0, .ref xHan, .ref xIns, .ref xShr, .ref xSta, .ref xTur])), (xSum, .inr (8, [.ref sM, .ref sP, .ref sA, .int 0]))] := hD
  have hr_1 := hw
  obtain rfl : r_1 = (-1) := hr_1
  refine lv_if_ge (tgt := 28) hx hb dX10_solidsWithoutSum_19 (by decide) (fun c => absurd c (by decide)) (fun _ => ?_)
  refine lv_iconst (v := 1) hx hb dX10_solidsWithoutSum_22 (by decide) ?_
  refine lv_iload_n hx hb dX10_solidsWithoutSum_23 rfl (lv_at hl 0 rfl) ?_
  refine lv_ishl hx hb dX10_solidsWithoutSum_24 ?_
  refine lv_topi (fun x_2 ex_2 => ?_)
  obtain rfl : x_2 = 1 := ex_2.trans (by first | rfl | decide)
  refine lv_goto (tgt := 29) hx hb dX10_solidsWithoutSum_25 (by decide) ?_
  refine lv_ior hx hb dX10_solidsWithoutSum_29 ?_
  refine lv_topi (fun x_3 ex_3 => ?_)
  obtain rfl : x_3 = 1 := ex_3.trans (by first | rfl | decide)
  refine lv_istore_n (lv' := [(1, .int 1), (2, .int 0), (0, .ref x0)]) hx hb dX10_solidsWithoutSum_30 rfl hl (by decide) rfl (fun ls hl => ?_)
  refine lv_iinc (v := 1) (lv' := [(2, .int 1), (1, .int 1), (0, .ref x0)]) hx hb dX10_solidsWithoutSum_31 hl (k := 1) rfl (by decide) (by decide) rfl (fun ls hl => ?_)
  refine lv_goto (tgt := 4) hx hb dX10_solidsWithoutSum_34 (by decide) ?_
  refine lv_iload_n hx hb dX10_solidsWithoutSum_4 rfl (lv_at hl 0 rfl) ?_
  refine lv_iconst (v := 4) hx hb dX10_solidsWithoutSum_5 (by decide) ?_
  refine lv_icmp_ge (tgt := 37) hx hb dX10_solidsWithoutSum_6 (by decide) (fun c => absurd c (by decide)) (fun _ => ?_)
  refine lv_iload_n hx hb dX10_solidsWithoutSum_9 rfl (lv_at hl 1 rfl) ?_
  refine lv_aload_n hx hb dX10_solidsWithoutSum_10 rfl (lv_at hl 2 rfl) ?_
  refine va_get (D := (dC, dI)) (ci := 10) (v := .ref xSum) (C := RX10) (T := TX10) (N := 13) hx hb hts hiX10 hown hK hP 0 rfl rfl 5 (by decide) (hts (.fieldLink RX10 51 "ScissorsTable" "sums" "LScissorsTable$Sums;") (by decide +kernel)) (fun _ h9 => h9) rfl dX10_solidsWithoutSum_11 ?_
  refine lv_iload_n hx hb dX10_solidsWithoutSum_14 rfl (lv_at hl 0 rfl) ?_
  refine lv_iconst (v := 0) hx hb dX10_solidsWithoutSum_15 (by decide) ?_
  have hPc := hP.sub (ws' := [(xSum, .inr (8, [.ref sM, .ref sP, .ref sA, .int 0]))]) [1] rfl
  have hDc := hD.sub (ws' := [(xSum, .inr (8, [.ref sM, .ref sP, .ref sA, .int 0]))]) [1] (by decide) rfl
  have hFc := va_free (wc := [(xSum, .inr (8, [.ref sM, .ref sP, .ref sA, .int 0]))]) hD hS hA [1] rfl
  refine va_calli (va_runV (As := [.int 1, .int 0]) (rest := [.int 1]) ⟨hx, hb, hml, hown, hts⟩ (c_X8_rowOfTerm l dC dI cB cI cJ H.size xSum sM sP sA 1 0) (cwV 2 hts gX10_solidsWithoutSum_X8_rowOfTerm rfl rfl rfl (by decide +kernel) ⟨Nat.le_of_ble_eq_true rfl, Nat.le_of_ble_eq_true rfl⟩) ⟨fun a U g mk q => by obtain ⟨q0, q1, qP, qK, qD⟩ := q; exact ⟨q0, q1, qP, va_K.moved (u := U) (U := U.calling g mk a) (Vm.Alike.refl U.vm) qK, qD⟩, va_recv hK hP (ci := 8) (q0 := 1) rfl rfl, fun U hU hW => ⟨rfl, by rw [hU], by rw [hU]; exact hPc, va_K.moved hW.alike hK, hDc.weaken (fun _ _ _ _ => trivial)⟩⟩ rfl rfl hl.1 rfl (lv_room (Nat.le_of_ble_eq_true rfl)) dX10_solidsWithoutSum_16 ⟨Nat.le_of_ble_eq_true rfl, Nat.le_of_ble_eq_true rfl⟩) hS (fun q _ h => hFc q h) hFc (fun r_4 u t H1 locs ht hvm hw hB hz1 hk1 hS => ?_)
  obtain ⟨hP1, hK1, hD1⟩ := hB
  rw [ht] at hP1
  obtain ⟨hP, hD⟩ := va_join (wr := [(x0, .inr (10, [.ref xTape, .ref xReader, .ref xBag, .ref xBld, .ref xAng, .ref xSum, .ref xPik, .int 0, .ref xHan, .ref xIns, .ref xShr, .ref xSta, .ref xTur]))]) (w1 := [(xSum, .inr (8, [.ref sM, .ref sP, .ref sA, .int 0]))]) hP hD [1] [0] rfl rfl (by decide) (by decide) hk1 hFc hP1 hD1
  generalize H1 = H at hP hS ⊢
  have hP : va_P (dC, dI) vwCl [(x0, .inr (10, [.ref xTape, .ref xReader, .ref xBag, .ref xBld, .ref xAng, .ref xSum, .ref xPik, .int 0, .ref xHan, .ref xIns, .ref xShr, .ref xSta, .ref xTur])), (xSum, .inr (8, [.ref sM, .ref sP, .ref sA, .int 0]))] H := hP
  have hD : va_D A [(x0, .inr (10, [.ref xTape, .ref xReader, .ref xBag, .ref xBld, .ref xAng, .ref xSum, .ref xPik, .int 0, .ref xHan, .ref xIns, .ref xShr, .ref xSta, .ref xTur])), (xSum, .inr (8, [.ref sM, .ref sP, .ref sA, .int 0]))] := hD
  have hr_4 := hw
  obtain rfl : r_4 = (-1) := hr_4
  refine lv_if_ge (tgt := 28) hx hb dX10_solidsWithoutSum_19 (by decide) (fun c => absurd c (by decide)) (fun _ => ?_)
  refine lv_iconst (v := 1) hx hb dX10_solidsWithoutSum_22 (by decide) ?_
  refine lv_iload_n hx hb dX10_solidsWithoutSum_23 rfl (lv_at hl 0 rfl) ?_
  refine lv_ishl hx hb dX10_solidsWithoutSum_24 ?_
  refine lv_topi (fun x_5 ex_5 => ?_)
  obtain rfl : x_5 = 2 := ex_5.trans (by first | rfl | decide)
  refine lv_goto (tgt := 29) hx hb dX10_solidsWithoutSum_25 (by decide) ?_
  refine lv_ior hx hb dX10_solidsWithoutSum_29 ?_
  refine lv_topi (fun x_6 ex_6 => ?_)
  obtain rfl : x_6 = 3 := ex_6.trans (by first | rfl | decide)
  refine lv_istore_n (lv' := [(1, .int 3), (2, .int 1), (0, .ref x0)]) hx hb dX10_solidsWithoutSum_30 rfl hl (by decide) rfl (fun ls hl => ?_)
  refine lv_iinc (v := 2) (lv' := [(2, .int 2), (1, .int 3), (0, .ref x0)]) hx hb dX10_solidsWithoutSum_31 hl (k := 1) rfl (by decide) (by decide) rfl (fun ls hl => ?_)
  refine lv_goto (tgt := 4) hx hb dX10_solidsWithoutSum_34 (by decide) ?_
  refine lv_iload_n hx hb dX10_solidsWithoutSum_4 rfl (lv_at hl 0 rfl) ?_
  refine lv_iconst (v := 4) hx hb dX10_solidsWithoutSum_5 (by decide) ?_
  refine lv_icmp_ge (tgt := 37) hx hb dX10_solidsWithoutSum_6 (by decide) (fun c => absurd c (by decide)) (fun _ => ?_)
  refine lv_iload_n hx hb dX10_solidsWithoutSum_9 rfl (lv_at hl 1 rfl) ?_
  refine lv_aload_n hx hb dX10_solidsWithoutSum_10 rfl (lv_at hl 2 rfl) ?_
  refine va_get (D := (dC, dI)) (ci := 10) (v := .ref xSum) (C := RX10) (T := TX10) (N := 13) hx hb hts hiX10 hown hK hP 0 rfl rfl 5 (by decide) (hts (.fieldLink RX10 51 "ScissorsTable" "sums" "LScissorsTable$Sums;") (by decide +kernel)) (fun _ h9 => h9) rfl dX10_solidsWithoutSum_11 ?_
  refine lv_iload_n hx hb dX10_solidsWithoutSum_14 rfl (lv_at hl 0 rfl) ?_
  refine lv_iconst (v := 0) hx hb dX10_solidsWithoutSum_15 (by decide) ?_
  have hPc := hP.sub (ws' := [(xSum, .inr (8, [.ref sM, .ref sP, .ref sA, .int 0]))]) [1] rfl
  have hDc := hD.sub (ws' := [(xSum, .inr (8, [.ref sM, .ref sP, .ref sA, .int 0]))]) [1] (by decide) rfl
  have hFc := va_free (wc := [(xSum, .inr (8, [.ref sM, .ref sP, .ref sA, .int 0]))]) hD hS hA [1] rfl
  refine va_calli (va_runV (As := [.int 2, .int 0]) (rest := [.int 3]) ⟨hx, hb, hml, hown, hts⟩ (c_X8_rowOfTerm l dC dI cB cI cJ H.size xSum sM sP sA 2 0) (cwV 2 hts gX10_solidsWithoutSum_X8_rowOfTerm rfl rfl rfl (by decide +kernel) ⟨Nat.le_of_ble_eq_true rfl, Nat.le_of_ble_eq_true rfl⟩) ⟨fun a U g mk q => by obtain ⟨q0, q1, qP, qK, qD⟩ := q; exact ⟨q0, q1, qP, va_K.moved (u := U) (U := U.calling g mk a) (Vm.Alike.refl U.vm) qK, qD⟩, va_recv hK hP (ci := 8) (q0 := 1) rfl rfl, fun U hU hW => ⟨rfl, by rw [hU], by rw [hU]; exact hPc, va_K.moved hW.alike hK, hDc.weaken (fun _ _ _ _ => trivial)⟩⟩ rfl rfl hl.1 rfl (lv_room (Nat.le_of_ble_eq_true rfl)) dX10_solidsWithoutSum_16 ⟨Nat.le_of_ble_eq_true rfl, Nat.le_of_ble_eq_true rfl⟩) hS (fun q _ h => hFc q h) hFc (fun r_7 u t H1 locs ht hvm hw hB hz1 hk1 hS => ?_)
  obtain ⟨hP1, hK1, hD1⟩ := hB
  rw [ht] at hP1
  obtain ⟨hP, hD⟩ := va_join (wr := [(x0, .inr (10, [.ref xTape, .ref xReader, .ref xBag, .ref xBld, .ref xAng, .ref xSum, .ref xPik, .int 0, .ref xHan, .ref xIns, .ref xShr, .ref xSta, .ref xTur]))]) (w1 := [(xSum, .inr (8, [.ref sM, .ref sP, .ref sA, .int 0]))]) hP hD [1] [0] rfl rfl (by decide) (by decide) hk1 hFc hP1 hD1
  generalize H1 = H at hP hS ⊢
  have hP : va_P (dC, dI) vwCl [(x0, .inr (10, [.ref xTape, .ref xReader, .ref xBag, .ref xBld, .ref xAng, .ref xSum, .ref xPik, .int 0, .ref xHan, .ref xIns, .ref xShr, .ref xSta, .ref xTur])), (xSum, .inr (8, [.ref sM, .ref sP, .ref sA, .int 0]))] H := hP
  have hD : va_D A [(x0, .inr (10, [.ref xTape, .ref xReader, .ref xBag, .ref xBld, .ref xAng, .ref xSum, .ref xPik, .int 0, .ref xHan, .ref xIns, .ref xShr, .ref xSta, .ref xTur])), (xSum, .inr (8, [.ref sM, .ref sP, .ref sA, .int 0]))] := hD
  have hr_7 := hw
  obtain rfl : r_7 = (-1) := hr_7
  refine lv_if_ge (tgt := 28) hx hb dX10_solidsWithoutSum_19 (by decide) (fun c => absurd c (by decide)) (fun _ => ?_)
  refine lv_iconst (v := 1) hx hb dX10_solidsWithoutSum_22 (by decide) ?_
  refine lv_iload_n hx hb dX10_solidsWithoutSum_23 rfl (lv_at hl 0 rfl) ?_
  refine lv_ishl hx hb dX10_solidsWithoutSum_24 ?_
  refine lv_topi (fun x_8 ex_8 => ?_)
  obtain rfl : x_8 = 4 := ex_8.trans (by first | rfl | decide)
  refine lv_goto (tgt := 29) hx hb dX10_solidsWithoutSum_25 (by decide) ?_
  refine lv_ior hx hb dX10_solidsWithoutSum_29 ?_
  refine lv_topi (fun x_9 ex_9 => ?_)
  obtain rfl : x_9 = 7 := ex_9.trans (by first | rfl | decide)
  refine lv_istore_n (lv' := [(1, .int 7), (2, .int 2), (0, .ref x0)]) hx hb dX10_solidsWithoutSum_30 rfl hl (by decide) rfl (fun ls hl => ?_)
  refine lv_iinc (v := 3) (lv' := [(2, .int 3), (1, .int 7), (0, .ref x0)]) hx hb dX10_solidsWithoutSum_31 hl (k := 1) rfl (by decide) (by decide) rfl (fun ls hl => ?_)
  refine lv_goto (tgt := 4) hx hb dX10_solidsWithoutSum_34 (by decide) ?_
  refine lv_iload_n hx hb dX10_solidsWithoutSum_4 rfl (lv_at hl 0 rfl) ?_
  refine lv_iconst (v := 4) hx hb dX10_solidsWithoutSum_5 (by decide) ?_
  refine lv_icmp_ge (tgt := 37) hx hb dX10_solidsWithoutSum_6 (by decide) (fun c => absurd c (by decide)) (fun _ => ?_)
  refine lv_iload_n hx hb dX10_solidsWithoutSum_9 rfl (lv_at hl 1 rfl) ?_
  refine lv_aload_n hx hb dX10_solidsWithoutSum_10 rfl (lv_at hl 2 rfl) ?_
  refine va_get (D := (dC, dI)) (ci := 10) (v := .ref xSum) (C := RX10) (T := TX10) (N := 13) hx hb hts hiX10 hown hK hP 0 rfl rfl 5 (by decide) (hts (.fieldLink RX10 51 "ScissorsTable" "sums" "LScissorsTable$Sums;") (by decide +kernel)) (fun _ h9 => h9) rfl dX10_solidsWithoutSum_11 ?_
  refine lv_iload_n hx hb dX10_solidsWithoutSum_14 rfl (lv_at hl 0 rfl) ?_
  refine lv_iconst (v := 0) hx hb dX10_solidsWithoutSum_15 (by decide) ?_
  have hPc := hP.sub (ws' := [(xSum, .inr (8, [.ref sM, .ref sP, .ref sA, .int 0]))]) [1] rfl
  have hDc := hD.sub (ws' := [(xSum, .inr (8, [.ref sM, .ref sP, .ref sA, .int 0]))]) [1] (by decide) rfl
  have hFc := va_free (wc := [(xSum, .inr (8, [.ref sM, .ref sP, .ref sA, .int 0]))]) hD hS hA [1] rfl
  refine va_calli (va_runV (As := [.int 3, .int 0]) (rest := [.int 7]) ⟨hx, hb, hml, hown, hts⟩ (c_X8_rowOfTerm l dC dI cB cI cJ H.size xSum sM sP sA 3 0) (cwV 2 hts gX10_solidsWithoutSum_X8_rowOfTerm rfl rfl rfl (by decide +kernel) ⟨Nat.le_of_ble_eq_true rfl, Nat.le_of_ble_eq_true rfl⟩) ⟨fun a U g mk q => by obtain ⟨q0, q1, qP, qK, qD⟩ := q; exact ⟨q0, q1, qP, va_K.moved (u := U) (U := U.calling g mk a) (Vm.Alike.refl U.vm) qK, qD⟩, va_recv hK hP (ci := 8) (q0 := 1) rfl rfl, fun U hU hW => ⟨rfl, by rw [hU], by rw [hU]; exact hPc, va_K.moved hW.alike hK, hDc.weaken (fun _ _ _ _ => trivial)⟩⟩ rfl rfl hl.1 rfl (lv_room (Nat.le_of_ble_eq_true rfl)) dX10_solidsWithoutSum_16 ⟨Nat.le_of_ble_eq_true rfl, Nat.le_of_ble_eq_true rfl⟩) hS (fun q _ h => hFc q h) hFc (fun r_10 u t H1 locs ht hvm hw hB hz1 hk1 hS => ?_)
  obtain ⟨hP1, hK1, hD1⟩ := hB
  rw [ht] at hP1
  obtain ⟨hP, hD⟩ := va_join (wr := [(x0, .inr (10, [.ref xTape, .ref xReader, .ref xBag, .ref xBld, .ref xAng, .ref xSum, .ref xPik, .int 0, .ref xHan, .ref xIns, .ref xShr, .ref xSta, .ref xTur]))]) (w1 := [(xSum, .inr (8, [.ref sM, .ref sP, .ref sA, .int 0]))]) hP hD [1] [0] rfl rfl (by decide) (by decide) hk1 hFc hP1 hD1
  generalize H1 = H at hP hS ⊢
  have hP : va_P (dC, dI) vwCl [(x0, .inr (10, [.ref xTape, .ref xReader, .ref xBag, .ref xBld, .ref xAng, .ref xSum, .ref xPik, .int 0, .ref xHan, .ref xIns, .ref xShr, .ref xSta, .ref xTur])), (xSum, .inr (8, [.ref sM, .ref sP, .ref sA, .int 0]))] H := hP
  have hD : va_D A [(x0, .inr (10, [.ref xTape, .ref xReader, .ref xBag, .ref xBld, .ref xAng, .ref xSum, .ref xPik, .int 0, .ref xHan, .ref xIns, .ref xShr, .ref xSta, .ref xTur])), (xSum, .inr (8, [.ref sM, .ref sP, .ref sA, .int 0]))] := hD
  have hr_10 := hw
  obtain rfl : r_10 = (-1) := hr_10
  refine lv_if_ge (tgt := 28) hx hb dX10_solidsWithoutSum_19 (by decide) (fun c => absurd c (by decide)) (fun _ => ?_)
  refine lv_iconst (v := 1) hx hb dX10_solidsWithoutSum_22 (by decide) ?_
  refine lv_iload_n hx hb dX10_solidsWithoutSum_23 rfl (lv_at hl 0 rfl) ?_
  refine lv_ishl hx hb dX10_solidsWithoutSum_24 ?_
  refine lv_topi (fun x_11 ex_11 => ?_)
  obtain rfl : x_11 = 8 := ex_11.trans (by first | rfl | decide)
  refine lv_goto (tgt := 29) hx hb dX10_solidsWithoutSum_25 (by decide) ?_
  refine lv_ior hx hb dX10_solidsWithoutSum_29 ?_
  refine lv_topi (fun x_12 ex_12 => ?_)
  obtain rfl : x_12 = 15 := ex_12.trans (by first | rfl | decide)
  refine lv_istore_n (lv' := [(1, .int 15), (2, .int 3), (0, .ref x0)]) hx hb dX10_solidsWithoutSum_30 rfl hl (by decide) rfl (fun ls hl => ?_)
  refine lv_iinc (v := 4) (lv' := [(2, .int 4), (1, .int 15), (0, .ref x0)]) hx hb dX10_solidsWithoutSum_31 hl (k := 1) rfl (by decide) (by decide) rfl (fun ls hl => ?_)
  refine lv_goto (tgt := 4) hx hb dX10_solidsWithoutSum_34 (by decide) ?_
  refine lv_iload_n hx hb dX10_solidsWithoutSum_4 rfl (lv_at hl 0 rfl) ?_
  refine lv_iconst (v := 4) hx hb dX10_solidsWithoutSum_5 (by decide) ?_
  refine lv_icmp_ge (tgt := 37) hx hb dX10_solidsWithoutSum_6 (by decide) (fun _ => ?_) (fun c => absurd (by decide) c)
  refine lv_iload_n hx hb dX10_solidsWithoutSum_37 rfl (lv_at hl 1 rfl) ?_
  refine W.widen (k := 0) (n := 0) (Nat.le_of_ble_eq_true rfl) (Nat.le_of_ble_eq_true rfl) ?_
  exact W.iret (v := 15) hx hb hr (fun t ht hW => ⟨⟨15, (), rfl, rfl, trivial⟩, hS.F ht⟩) hS.2.2 dX10_solidsWithoutSum_38
set_option maxHeartbeats 4000000 in
set_option maxRecDepth 100000 in
theorem c_X10_alikeCouples (l : Launch) (dC : Nat → ClassId) (dI : Nat → Nat → Nat) (cB cI cJ : ClassId) (sz : Nat) (x0 xTape xReader xBag xBld xAng xSum xPik xHan xIns xShr xSta xTur bC bS bX bW bP : Nat) : Met l yX10_alikeCouples wsX10_alikeCouples ({ frames := 2, cells := 0, slots := 0, locals := 47 }) (va_Pc [.ref x0] (fun U => U.heap.size = sz ∧ va_P (dC, dI) vwCl [(x0, .inr (10, [.ref xTape, .ref xReader, .ref xBag, .ref xBld, .ref xAng, .ref xSum, .ref xPik, .int 0, .ref xHan, .ref xIns, .ref xShr, .ref xSta, .ref xTur])), (xBag, .inr (1, [.ref bC, .ref bS, .ref bX, .ref bW, .ref bP, .int 0]))] U.heap ∧ va_K (dC, dI) vwCl [(cB, .byte), (cI, .int), (cJ, .long)] U ∧ va_D (fun _ => True) [(x0, .inr (10, [.ref xTape, .ref xReader, .ref xBag, .ref xBld, .ref xAng, .ref xSum, .ref xPik, .int 0, .ref xHan, .ref xIns, .ref xShr, .ref xSta, .ref xTur])), (xBag, .inr (1, [.ref bC, .ref bS, .ref bX, .ref bW, .ref bP, .int 0]))])) (va_Qi (fun (r : Int32) (_ : Unit) => r = 0) (fun _ _ => True) (va_A [(x0, .inr (10, [.ref xTape, .ref xReader, .ref xBag, .ref xBld, .ref xAng, .ref xSum, .ref xPik, .int 0, .ref xHan, .ref xIns, .ref xShr, .ref xSta, .ref xTur])), (xBag, .inr (1, [.ref bC, .ref bS, .ref bX, .ref bW, .ref bP, .int 0]))] sz)) 0 0 (va_A [(x0, .inr (10, [.ref xTape, .ref xReader, .ref xBag, .ref xBld, .ref xAng, .ref xSum, .ref xPik, .int 0, .ref xHan, .ref xIns, .ref xShr, .ref xSta, .ref xTur])), (xBag, .inr (1, [.ref bC, .ref bS, .ref bX, .ref bW, .ref bP, .int 0]))] sz) := by
  refine Met.ofW (cc := cX10_alikeCouples) (maxL := 5) (ret := (some .int)) (by decide) rfl ?_
  intro p e s m args below meth c s₁ B hml hv
  obtain ⟨rfl, hsz, hP, hK, hD0⟩ := hv
  have hx := B.exec
  have hb := B.bytes
  have hr := B.returns
  have hts := atoms_spec (ws := wsX10_alikeCouples) B.pre
  have hown : s.vm.findClass RX10 = some m.cls := findClass_of_methodNamed B.named
  have hlocks := B.notSynchronized
  have hiX10 : ∀ w ∈ u_ws RX10 TX10 13, w ∈ wsX10_alikeCouples := by decide +kernel
  subst hsz
  have hD := hD0.self (sz := s.heap.size)
  generalize hAe : va_A [(x0, .inr (10, [.ref xTape, .ref xReader, .ref xBag, .ref xBld, .ref xAng, .ref xSum, .ref xPik, .int 0, .ref xHan, .ref xIns, .ref xShr, .ref xSta, .ref xTur])), (xBag, .inr (1, [.ref bC, .ref bS, .ref bX, .ref bW, .ref bP, .int 0]))] s.heap.size = A at hD ⊢
  have hA : ∀ q : Nat, s.heap.size ≤ q → A q := fun q h => by rw [← hAe]; exact Or.inr h
  have hS : va_S A s.heap s.heap [] := va_S.rf
  have hP : va_P (dC, dI) vwCl [(x0, .inr (10, [.ref xTape, .ref xReader, .ref xBag, .ref xBld, .ref xAng, .ref xSum, .ref xPik, .int 0, .ref xHan, .ref xIns, .ref xShr, .ref xSta, .ref xTur])), (xBag, .inr (1, [.ref bC, .ref bS, .ref bX, .ref bW, .ref bP, .int 0]))] s.heap := hP
  have hl := lv_entry ([.ref x0]) (n := 5) (Nat.le_of_ble_eq_true rfl)
  rw [lg_entry_eq]
  generalize (lg_sl ([.ref x0]) ++ List.replicate (5 - (lg_sl ([.ref x0])).length) Slot.unset).toArray = ls at hl ⊢
  have hl : lv_has ls 5 [(0, .ref x0)] := hl
  refine lv_iconst (v := 0) hx hb dX10_alikeCouples_0 (by decide) ?_
  refine lv_istore_n (lv' := [(1, .int 0), (0, .ref x0)]) hx hb dX10_alikeCouples_1 rfl hl (by decide) rfl (fun ls hl => ?_)
  refine lv_iconst (v := 0) hx hb dX10_alikeCouples_2 (by decide) ?_
  refine lv_istore_n (lv' := [(2, .int 0), (1, .int 0), (0, .ref x0)]) hx hb dX10_alikeCouples_3 rfl hl (by decide) rfl (fun ls hl => ?_)
  refine lv_iload_n hx hb dX10_alikeCouples_4 rfl (lv_at hl 0 rfl) ?_
  refine lv_iconst (v := 4) hx hb dX10_alikeCouples_5 (by decide) ?_
  refine lv_icmp_ge (tgt := 81) hx hb dX10_alikeCouples_6 (by decide) (fun c => absurd c (by decide)) (fun _ => ?_)
  refine lv_iload_n hx hb dX10_alikeCouples_9 rfl (lv_at hl 0 rfl) ?_
  refine lv_iconst (v := 1) hx hb dX10_alikeCouples_10 (by decide) ?_
  refine lv_iadd hx hb dX10_alikeCouples_11 ?_
  refine lv_topi (fun x_1 ex_1 => ?_)
  obtain rfl : x_1 = 1 := ex_1.trans (by first | rfl | decide)
  refine lv_istore_n (lv' := [(3, .int 1), (2, .int 0), (1, .int 0), (0, .ref x0)]) hx hb dX10_alikeCouples_12 rfl hl (by decide) rfl (fun ls hl => ?_)
  refine lv_iload_n hx hb dX10_alikeCouples_13 rfl (lv_at hl 0 rfl) ?_
  refine lv_iconst (v := 4) hx hb dX10_alikeCouples_14 (by decide) ?_
  refine lv_icmp_ge (tgt := 75) hx hb dX10_alikeCouples_15 (by decide) (fun c => absurd c (by decide)) (fun _ => ?_)
  refine lv_aload_n hx hb dX10_alikeCouples_18 rfl (lv_at hl 3 rfl) ?_
  refine va_get (D := (dC, dI)) (ci := 10) (v := .ref xBag) (C := RX10) (T := TX10) (N := 13) hx hb hts hiX10 hown hK hP 0 rfl rfl 2 (by decide) (hts (.fieldLink RX10 28 "ScissorsTable" "bag" "LScissorsTable$Bag;") (by decide +kernel)) (fun _ h9 => h9) rfl dX10_alikeCouples_19 ?_
  refine lv_iload_n hx hb dX10_alikeCouples_22 rfl (lv_at hl 1 rfl) ?_
  have hPc := hP.sub (ws' := [(xBag, .inr (1, [.ref bC, .ref bS, .ref bX, .ref bW, .ref bP, .int 0]))]) [1] rfl
  have hDc := hD.sub (ws' := [(xBag, .inr (1, [.ref bC, .ref bS, .ref bX, .ref bW, .ref bP, .int 0]))]) [1] (by decide) rfl
  have hFc := va_free (wc := [(xBag, .inr (1, [.ref bC, .ref bS, .ref bX, .ref bW, .ref bP, .int 0]))]) hD hS hA [1] rfl
  refine va_calli (va_runV (As := [.int 0]) (rest := []) ⟨hx, hb, hml, hown, hts⟩ (c_X1_tetsOfSolid l dC dI cB cI cJ s.heap.size xBag bC bS bX bW bP 0) (cwV 1 hts gX10_alikeCouples_X1_tetsOfSolid rfl rfl rfl (by decide +kernel) ⟨Nat.le_of_ble_eq_true rfl, Nat.le_of_ble_eq_true rfl⟩) ⟨fun a U g mk q => by obtain ⟨q0, q1, qP, qK, qD⟩ := q; exact ⟨q0, q1, qP, va_K.moved (u := U) (U := U.calling g mk a) (Vm.Alike.refl U.vm) qK, qD⟩, va_recv hK hP (ci := 1) (q0 := 1) rfl rfl, fun U hU hW => ⟨rfl, by rw [hU], by rw [hU]; exact hPc, va_K.moved hW.alike hK, hDc.weaken (fun _ _ _ _ => trivial)⟩⟩ rfl rfl hl.1 rfl (lv_room (Nat.le_of_ble_eq_true rfl)) dX10_alikeCouples_23 ⟨Nat.le_of_ble_eq_true rfl, Nat.le_of_ble_eq_true rfl⟩) hS (fun q _ h => hFc q h) hFc (fun r_2 u t H1 locs ht hvm hw hB hz1 hk1 hS => ?_)
  obtain ⟨hP1, hK1, hD1⟩ := hB
  rw [ht] at hP1
  obtain ⟨hP, hD⟩ := va_join (wr := [(x0, .inr (10, [.ref xTape, .ref xReader, .ref xBag, .ref xBld, .ref xAng, .ref xSum, .ref xPik, .int 0, .ref xHan, .ref xIns, .ref xShr, .ref xSta, .ref xTur]))]) (w1 := [(xBag, .inr (1, [.ref bC, .ref bS, .ref bX, .ref bW, .ref bP, .int 0]))]) hP hD [1] [0] rfl rfl (by decide) (by decide) hk1 hFc hP1 hD1
  generalize H1 = H at hP hS ⊢
  have hP : va_P (dC, dI) vwCl [(x0, .inr (10, [.ref xTape, .ref xReader, .ref xBag, .ref xBld, .ref xAng, .ref xSum, .ref xPik, .int 0, .ref xHan, .ref xIns, .ref xShr, .ref xSta, .ref xTur])), (xBag, .inr (1, [.ref bC, .ref bS, .ref bX, .ref bW, .ref bP, .int 0]))] H := hP
  have hD : va_D A [(x0, .inr (10, [.ref xTape, .ref xReader, .ref xBag, .ref xBld, .ref xAng, .ref xSum, .ref xPik, .int 0, .ref xHan, .ref xIns, .ref xShr, .ref xSta, .ref xTur])), (xBag, .inr (1, [.ref bC, .ref bS, .ref bX, .ref bW, .ref bP, .int 0]))] := hD
  have hr_2 := hw
  obtain rfl : r_2 = 0 := hr_2
  refine lv_if_le (tgt := 44) hx hb dX10_alikeCouples_26 (by decide) (fun _ => ?_) (fun c => absurd (by decide) c)
  refine lv_iconst (v := 0) hx hb dX10_alikeCouples_44 (by decide) ?_
  refine lv_istore (lv' := [(4, .int 0), (3, .int 1), (2, .int 0), (1, .int 0), (0, .ref x0)]) hx hb dX10_alikeCouples_45 hl (by decide) rfl (fun ls hl => ?_)
  refine lv_iload_n hx hb dX10_alikeCouples_47 rfl (lv_at hl 3 rfl) ?_
  refine lv_iload hx hb dX10_alikeCouples_48 (lv_at hl 0 rfl) ?_
  refine lv_if_eq (tgt := 66) hx hb dX10_alikeCouples_50 (by decide) (fun _ => ?_) (fun c => absurd (by decide) c)
  refine lv_iconst (v := 0) hx hb dX10_alikeCouples_66 (by decide) ?_
  refine lv_iadd hx hb dX10_alikeCouples_67 ?_
  refine lv_topi (fun x_3 ex_3 => ?_)
  obtain rfl : x_3 = 0 := ex_3.trans (by first | rfl | decide)
  refine lv_istore_n (lv' := [(1, .int 0), (4, .int 0), (3, .int 1), (2, .int 0), (0, .ref x0)]) hx hb dX10_alikeCouples_68 rfl hl (by decide) rfl (fun ls hl => ?_)
  refine lv_iinc (v := 2) (lv' := [(3, .int 2), (1, .int 0), (4, .int 0), (2, .int 0), (0, .ref x0)]) hx hb dX10_alikeCouples_69 hl (k := 2) rfl (by decide) (by decide) rfl (fun ls hl => ?_)
  refine lv_goto (tgt := 13) hx hb dX10_alikeCouples_72 (by decide) ?_
  refine lv_iload_n hx hb dX10_alikeCouples_13 rfl (lv_at hl 0 rfl) ?_
  refine lv_iconst (v := 4) hx hb dX10_alikeCouples_14 (by decide) ?_
  refine lv_icmp_ge (tgt := 75) hx hb dX10_alikeCouples_15 (by decide) (fun c => absurd c (by decide)) (fun _ => ?_)
  refine lv_aload_n hx hb dX10_alikeCouples_18 rfl (lv_at hl 4 rfl) ?_
  refine va_get (D := (dC, dI)) (ci := 10) (v := .ref xBag) (C := RX10) (T := TX10) (N := 13) hx hb hts hiX10 hown hK hP 0 rfl rfl 2 (by decide) (hts (.fieldLink RX10 28 "ScissorsTable" "bag" "LScissorsTable$Bag;") (by decide +kernel)) (fun _ h9 => h9) rfl dX10_alikeCouples_19 ?_
  refine lv_iload_n hx hb dX10_alikeCouples_22 rfl (lv_at hl 3 rfl) ?_
  have hPc := hP.sub (ws' := [(xBag, .inr (1, [.ref bC, .ref bS, .ref bX, .ref bW, .ref bP, .int 0]))]) [1] rfl
  have hDc := hD.sub (ws' := [(xBag, .inr (1, [.ref bC, .ref bS, .ref bX, .ref bW, .ref bP, .int 0]))]) [1] (by decide) rfl
  have hFc := va_free (wc := [(xBag, .inr (1, [.ref bC, .ref bS, .ref bX, .ref bW, .ref bP, .int 0]))]) hD hS hA [1] rfl
  refine va_calli (va_runV (As := [.int 0]) (rest := []) ⟨hx, hb, hml, hown, hts⟩ (c_X1_tetsOfSolid l dC dI cB cI cJ H.size xBag bC bS bX bW bP 0) (cwV 1 hts gX10_alikeCouples_X1_tetsOfSolid rfl rfl rfl (by decide +kernel) ⟨Nat.le_of_ble_eq_true rfl, Nat.le_of_ble_eq_true rfl⟩) ⟨fun a U g mk q => by obtain ⟨q0, q1, qP, qK, qD⟩ := q; exact ⟨q0, q1, qP, va_K.moved (u := U) (U := U.calling g mk a) (Vm.Alike.refl U.vm) qK, qD⟩, va_recv hK hP (ci := 1) (q0 := 1) rfl rfl, fun U hU hW => ⟨rfl, by rw [hU], by rw [hU]; exact hPc, va_K.moved hW.alike hK, hDc.weaken (fun _ _ _ _ => trivial)⟩⟩ rfl rfl hl.1 rfl (lv_room (Nat.le_of_ble_eq_true rfl)) dX10_alikeCouples_23 ⟨Nat.le_of_ble_eq_true rfl, Nat.le_of_ble_eq_true rfl⟩) hS (fun q _ h => hFc q h) hFc (fun r_4 u t H1 locs ht hvm hw hB hz1 hk1 hS => ?_)
  obtain ⟨hP1, hK1, hD1⟩ := hB
  rw [ht] at hP1
  obtain ⟨hP, hD⟩ := va_join (wr := [(x0, .inr (10, [.ref xTape, .ref xReader, .ref xBag, .ref xBld, .ref xAng, .ref xSum, .ref xPik, .int 0, .ref xHan, .ref xIns, .ref xShr, .ref xSta, .ref xTur]))]) (w1 := [(xBag, .inr (1, [.ref bC, .ref bS, .ref bX, .ref bW, .ref bP, .int 0]))]) hP hD [1] [0] rfl rfl (by decide) (by decide) hk1 hFc hP1 hD1
  generalize H1 = H at hP hS ⊢
  have hP : va_P (dC, dI) vwCl [(x0, .inr (10, [.ref xTape, .ref xReader, .ref xBag, .ref xBld, .ref xAng, .ref xSum, .ref xPik, .int 0, .ref xHan, .ref xIns, .ref xShr, .ref xSta, .ref xTur])), (xBag, .inr (1, [.ref bC, .ref bS, .ref bX, .ref bW, .ref bP, .int 0]))] H := hP
  have hD : va_D A [(x0, .inr (10, [.ref xTape, .ref xReader, .ref xBag, .ref xBld, .ref xAng, .ref xSum, .ref xPik, .int 0, .ref xHan, .ref xIns, .ref xShr, .ref xSta, .ref xTur])), (xBag, .inr (1, [.ref bC, .ref bS, .ref bX, .ref bW, .ref bP, .int 0]))] := hD
  have hr_4 := hw
  obtain rfl : r_4 = 0 := hr_4
  refine lv_if_le (tgt := 44) hx hb dX10_alikeCouples_26 (by decide) (fun _ => ?_) (fun c => absurd (by decide) c)
  refine lv_iconst (v := 0) hx hb dX10_alikeCouples_44 (by decide) ?_
  refine lv_istore (lv' := [(4, .int 0), (3, .int 2), (1, .int 0), (2, .int 0), (0, .ref x0)]) hx hb dX10_alikeCouples_45 hl (by decide) rfl (fun ls hl => ?_)
  refine lv_iload_n hx hb dX10_alikeCouples_47 rfl (lv_at hl 2 rfl) ?_
  refine lv_iload hx hb dX10_alikeCouples_48 (lv_at hl 0 rfl) ?_
  refine lv_if_eq (tgt := 66) hx hb dX10_alikeCouples_50 (by decide) (fun _ => ?_) (fun c => absurd (by decide) c)
  refine lv_iconst (v := 0) hx hb dX10_alikeCouples_66 (by decide) ?_
  refine lv_iadd hx hb dX10_alikeCouples_67 ?_
  refine lv_topi (fun x_5 ex_5 => ?_)
  obtain rfl : x_5 = 0 := ex_5.trans (by first | rfl | decide)
  refine lv_istore_n (lv' := [(1, .int 0), (4, .int 0), (3, .int 2), (2, .int 0), (0, .ref x0)]) hx hb dX10_alikeCouples_68 rfl hl (by decide) rfl (fun ls hl => ?_)
  refine lv_iinc (v := 3) (lv' := [(3, .int 3), (1, .int 0), (4, .int 0), (2, .int 0), (0, .ref x0)]) hx hb dX10_alikeCouples_69 hl (k := 2) rfl (by decide) (by decide) rfl (fun ls hl => ?_)
  refine lv_goto (tgt := 13) hx hb dX10_alikeCouples_72 (by decide) ?_
  refine lv_iload_n hx hb dX10_alikeCouples_13 rfl (lv_at hl 0 rfl) ?_
  refine lv_iconst (v := 4) hx hb dX10_alikeCouples_14 (by decide) ?_
  refine lv_icmp_ge (tgt := 75) hx hb dX10_alikeCouples_15 (by decide) (fun c => absurd c (by decide)) (fun _ => ?_)
  refine lv_aload_n hx hb dX10_alikeCouples_18 rfl (lv_at hl 4 rfl) ?_
  refine va_get (D := (dC, dI)) (ci := 10) (v := .ref xBag) (C := RX10) (T := TX10) (N := 13) hx hb hts hiX10 hown hK hP 0 rfl rfl 2 (by decide) (hts (.fieldLink RX10 28 "ScissorsTable" "bag" "LScissorsTable$Bag;") (by decide +kernel)) (fun _ h9 => h9) rfl dX10_alikeCouples_19 ?_
  refine lv_iload_n hx hb dX10_alikeCouples_22 rfl (lv_at hl 3 rfl) ?_
  have hPc := hP.sub (ws' := [(xBag, .inr (1, [.ref bC, .ref bS, .ref bX, .ref bW, .ref bP, .int 0]))]) [1] rfl
  have hDc := hD.sub (ws' := [(xBag, .inr (1, [.ref bC, .ref bS, .ref bX, .ref bW, .ref bP, .int 0]))]) [1] (by decide) rfl
  have hFc := va_free (wc := [(xBag, .inr (1, [.ref bC, .ref bS, .ref bX, .ref bW, .ref bP, .int 0]))]) hD hS hA [1] rfl
  refine va_calli (va_runV (As := [.int 0]) (rest := []) ⟨hx, hb, hml, hown, hts⟩ (c_X1_tetsOfSolid l dC dI cB cI cJ H.size xBag bC bS bX bW bP 0) (cwV 1 hts gX10_alikeCouples_X1_tetsOfSolid rfl rfl rfl (by decide +kernel) ⟨Nat.le_of_ble_eq_true rfl, Nat.le_of_ble_eq_true rfl⟩) ⟨fun a U g mk q => by obtain ⟨q0, q1, qP, qK, qD⟩ := q; exact ⟨q0, q1, qP, va_K.moved (u := U) (U := U.calling g mk a) (Vm.Alike.refl U.vm) qK, qD⟩, va_recv hK hP (ci := 1) (q0 := 1) rfl rfl, fun U hU hW => ⟨rfl, by rw [hU], by rw [hU]; exact hPc, va_K.moved hW.alike hK, hDc.weaken (fun _ _ _ _ => trivial)⟩⟩ rfl rfl hl.1 rfl (lv_room (Nat.le_of_ble_eq_true rfl)) dX10_alikeCouples_23 ⟨Nat.le_of_ble_eq_true rfl, Nat.le_of_ble_eq_true rfl⟩) hS (fun q _ h => hFc q h) hFc (fun r_6 u t H1 locs ht hvm hw hB hz1 hk1 hS => ?_)
  obtain ⟨hP1, hK1, hD1⟩ := hB
  rw [ht] at hP1
  obtain ⟨hP, hD⟩ := va_join (wr := [(x0, .inr (10, [.ref xTape, .ref xReader, .ref xBag, .ref xBld, .ref xAng, .ref xSum, .ref xPik, .int 0, .ref xHan, .ref xIns, .ref xShr, .ref xSta, .ref xTur]))]) (w1 := [(xBag, .inr (1, [.ref bC, .ref bS, .ref bX, .ref bW, .ref bP, .int 0]))]) hP hD [1] [0] rfl rfl (by decide) (by decide) hk1 hFc hP1 hD1
  generalize H1 = H at hP hS ⊢
  have hP : va_P (dC, dI) vwCl [(x0, .inr (10, [.ref xTape, .ref xReader, .ref xBag, .ref xBld, .ref xAng, .ref xSum, .ref xPik, .int 0, .ref xHan, .ref xIns, .ref xShr, .ref xSta, .ref xTur])), (xBag, .inr (1, [.ref bC, .ref bS, .ref bX, .ref bW, .ref bP, .int 0]))] H := hP
  have hD : va_D A [(x0, .inr (10, [.ref xTape, .ref xReader, .ref xBag, .ref xBld, .ref xAng, .ref xSum, .ref xPik, .int 0, .ref xHan, .ref xIns, .ref xShr, .ref xSta, .ref xTur])), (xBag, .inr (1, [.ref bC, .ref bS, .ref bX, .ref bW, .ref bP, .int 0]))] := hD
  have hr_6 := hw
  obtain rfl : r_6 = 0 := hr_6
  refine lv_if_le (tgt := 44) hx hb dX10_alikeCouples_26 (by decide) (fun _ => ?_) (fun c => absurd (by decide) c)
  refine lv_iconst (v := 0) hx hb dX10_alikeCouples_44 (by decide) ?_
  refine lv_istore (lv' := [(4, .int 0), (3, .int 3), (1, .int 0), (2, .int 0), (0, .ref x0)]) hx hb dX10_alikeCouples_45 hl (by decide) rfl (fun ls hl => ?_)
  refine lv_iload_n hx hb dX10_alikeCouples_47 rfl (lv_at hl 2 rfl) ?_
  refine lv_iload hx hb dX10_alikeCouples_48 (lv_at hl 0 rfl) ?_
  refine lv_if_eq (tgt := 66) hx hb dX10_alikeCouples_50 (by decide) (fun _ => ?_) (fun c => absurd (by decide) c)
  refine lv_iconst (v := 0) hx hb dX10_alikeCouples_66 (by decide) ?_
  refine lv_iadd hx hb dX10_alikeCouples_67 ?_
  refine lv_topi (fun x_7 ex_7 => ?_)
  obtain rfl : x_7 = 0 := ex_7.trans (by first | rfl | decide)
  refine lv_istore_n (lv' := [(1, .int 0), (4, .int 0), (3, .int 3), (2, .int 0), (0, .ref x0)]) hx hb dX10_alikeCouples_68 rfl hl (by decide) rfl (fun ls hl => ?_)
  refine lv_iinc (v := 4) (lv' := [(3, .int 4), (1, .int 0), (4, .int 0), (2, .int 0), (0, .ref x0)]) hx hb dX10_alikeCouples_69 hl (k := 2) rfl (by decide) (by decide) rfl (fun ls hl => ?_)
  refine lv_goto (tgt := 13) hx hb dX10_alikeCouples_72 (by decide) ?_
  refine lv_iload_n hx hb dX10_alikeCouples_13 rfl (lv_at hl 0 rfl) ?_
  refine lv_iconst (v := 4) hx hb dX10_alikeCouples_14 (by decide) ?_
  refine lv_icmp_ge (tgt := 75) hx hb dX10_alikeCouples_15 (by decide) (fun _ => ?_) (fun c => absurd (by decide) c)
  refine lv_iinc (v := 1) (lv' := [(2, .int 1), (3, .int 4), (1, .int 0), (4, .int 0), (0, .ref x0)]) hx hb dX10_alikeCouples_75 hl (k := 3) rfl (by decide) (by decide) rfl (fun ls hl => ?_)
  refine lv_goto (tgt := 4) hx hb dX10_alikeCouples_78 (by decide) ?_
  refine lv_iload_n hx hb dX10_alikeCouples_4 rfl (lv_at hl 0 rfl) ?_
  refine lv_iconst (v := 4) hx hb dX10_alikeCouples_5 (by decide) ?_
  refine lv_icmp_ge (tgt := 81) hx hb dX10_alikeCouples_6 (by decide) (fun c => absurd c (by decide)) (fun _ => ?_)
  refine lv_iload_n hx hb dX10_alikeCouples_9 rfl (lv_at hl 0 rfl) ?_
  refine lv_iconst (v := 1) hx hb dX10_alikeCouples_10 (by decide) ?_
  refine lv_iadd hx hb dX10_alikeCouples_11 ?_
  refine lv_topi (fun x_8 ex_8 => ?_)
  obtain rfl : x_8 = 2 := ex_8.trans (by first | rfl | decide)
  refine lv_istore_n (lv' := [(3, .int 2), (2, .int 1), (1, .int 0), (4, .int 0), (0, .ref x0)]) hx hb dX10_alikeCouples_12 rfl hl (by decide) rfl (fun ls hl => ?_)
  refine lv_iload_n hx hb dX10_alikeCouples_13 rfl (lv_at hl 0 rfl) ?_
  refine lv_iconst (v := 4) hx hb dX10_alikeCouples_14 (by decide) ?_
  refine lv_icmp_ge (tgt := 75) hx hb dX10_alikeCouples_15 (by decide) (fun c => absurd c (by decide)) (fun _ => ?_)
  refine lv_aload_n hx hb dX10_alikeCouples_18 rfl (lv_at hl 4 rfl) ?_
  refine va_get (D := (dC, dI)) (ci := 10) (v := .ref xBag) (C := RX10) (T := TX10) (N := 13) hx hb hts hiX10 hown hK hP 0 rfl rfl 2 (by decide) (hts (.fieldLink RX10 28 "ScissorsTable" "bag" "LScissorsTable$Bag;") (by decide +kernel)) (fun _ h9 => h9) rfl dX10_alikeCouples_19 ?_
  refine lv_iload_n hx hb dX10_alikeCouples_22 rfl (lv_at hl 1 rfl) ?_
  have hPc := hP.sub (ws' := [(xBag, .inr (1, [.ref bC, .ref bS, .ref bX, .ref bW, .ref bP, .int 0]))]) [1] rfl
  have hDc := hD.sub (ws' := [(xBag, .inr (1, [.ref bC, .ref bS, .ref bX, .ref bW, .ref bP, .int 0]))]) [1] (by decide) rfl
  have hFc := va_free (wc := [(xBag, .inr (1, [.ref bC, .ref bS, .ref bX, .ref bW, .ref bP, .int 0]))]) hD hS hA [1] rfl
  refine va_calli (va_runV (As := [.int 1]) (rest := []) ⟨hx, hb, hml, hown, hts⟩ (c_X1_tetsOfSolid l dC dI cB cI cJ H.size xBag bC bS bX bW bP 1) (cwV 1 hts gX10_alikeCouples_X1_tetsOfSolid rfl rfl rfl (by decide +kernel) ⟨Nat.le_of_ble_eq_true rfl, Nat.le_of_ble_eq_true rfl⟩) ⟨fun a U g mk q => by obtain ⟨q0, q1, qP, qK, qD⟩ := q; exact ⟨q0, q1, qP, va_K.moved (u := U) (U := U.calling g mk a) (Vm.Alike.refl U.vm) qK, qD⟩, va_recv hK hP (ci := 1) (q0 := 1) rfl rfl, fun U hU hW => ⟨rfl, by rw [hU], by rw [hU]; exact hPc, va_K.moved hW.alike hK, hDc.weaken (fun _ _ _ _ => trivial)⟩⟩ rfl rfl hl.1 rfl (lv_room (Nat.le_of_ble_eq_true rfl)) dX10_alikeCouples_23 ⟨Nat.le_of_ble_eq_true rfl, Nat.le_of_ble_eq_true rfl⟩) hS (fun q _ h => hFc q h) hFc (fun r_9 u t H1 locs ht hvm hw hB hz1 hk1 hS => ?_)
  obtain ⟨hP1, hK1, hD1⟩ := hB
  rw [ht] at hP1
  obtain ⟨hP, hD⟩ := va_join (wr := [(x0, .inr (10, [.ref xTape, .ref xReader, .ref xBag, .ref xBld, .ref xAng, .ref xSum, .ref xPik, .int 0, .ref xHan, .ref xIns, .ref xShr, .ref xSta, .ref xTur]))]) (w1 := [(xBag, .inr (1, [.ref bC, .ref bS, .ref bX, .ref bW, .ref bP, .int 0]))]) hP hD [1] [0] rfl rfl (by decide) (by decide) hk1 hFc hP1 hD1
  generalize H1 = H at hP hS ⊢
  have hP : va_P (dC, dI) vwCl [(x0, .inr (10, [.ref xTape, .ref xReader, .ref xBag, .ref xBld, .ref xAng, .ref xSum, .ref xPik, .int 0, .ref xHan, .ref xIns, .ref xShr, .ref xSta, .ref xTur])), (xBag, .inr (1, [.ref bC, .ref bS, .ref bX, .ref bW, .ref bP, .int 0]))] H := hP
  have hD : va_D A [(x0, .inr (10, [.ref xTape, .ref xReader, .ref xBag, .ref xBld, .ref xAng, .ref xSum, .ref xPik, .int 0, .ref xHan, .ref xIns, .ref xShr, .ref xSta, .ref xTur])), (xBag, .inr (1, [.ref bC, .ref bS, .ref bX, .ref bW, .ref bP, .int 0]))] := hD
  have hr_9 := hw
  obtain rfl : r_9 = 0 := hr_9
  refine lv_if_le (tgt := 44) hx hb dX10_alikeCouples_26 (by decide) (fun _ => ?_) (fun c => absurd (by decide) c)
  refine lv_iconst (v := 0) hx hb dX10_alikeCouples_44 (by decide) ?_
  refine lv_istore (lv' := [(4, .int 0), (3, .int 2), (2, .int 1), (1, .int 0), (0, .ref x0)]) hx hb dX10_alikeCouples_45 hl (by decide) rfl (fun ls hl => ?_)
  refine lv_iload_n hx hb dX10_alikeCouples_47 rfl (lv_at hl 3 rfl) ?_
  refine lv_iload hx hb dX10_alikeCouples_48 (lv_at hl 0 rfl) ?_
  refine lv_if_eq (tgt := 66) hx hb dX10_alikeCouples_50 (by decide) (fun _ => ?_) (fun c => absurd (by decide) c)
  refine lv_iconst (v := 0) hx hb dX10_alikeCouples_66 (by decide) ?_
  refine lv_iadd hx hb dX10_alikeCouples_67 ?_
  refine lv_topi (fun x_10 ex_10 => ?_)
  obtain rfl : x_10 = 0 := ex_10.trans (by first | rfl | decide)
  refine lv_istore_n (lv' := [(1, .int 0), (4, .int 0), (3, .int 2), (2, .int 1), (0, .ref x0)]) hx hb dX10_alikeCouples_68 rfl hl (by decide) rfl (fun ls hl => ?_)
  refine lv_iinc (v := 3) (lv' := [(3, .int 3), (1, .int 0), (4, .int 0), (2, .int 1), (0, .ref x0)]) hx hb dX10_alikeCouples_69 hl (k := 2) rfl (by decide) (by decide) rfl (fun ls hl => ?_)
  refine lv_goto (tgt := 13) hx hb dX10_alikeCouples_72 (by decide) ?_
  refine lv_iload_n hx hb dX10_alikeCouples_13 rfl (lv_at hl 0 rfl) ?_
  refine lv_iconst (v := 4) hx hb dX10_alikeCouples_14 (by decide) ?_
  refine lv_icmp_ge (tgt := 75) hx hb dX10_alikeCouples_15 (by decide) (fun c => absurd c (by decide)) (fun _ => ?_)
  refine lv_aload_n hx hb dX10_alikeCouples_18 rfl (lv_at hl 4 rfl) ?_
  refine va_get (D := (dC, dI)) (ci := 10) (v := .ref xBag) (C := RX10) (T := TX10) (N := 13) hx hb hts hiX10 hown hK hP 0 rfl rfl 2 (by decide) (hts (.fieldLink RX10 28 "ScissorsTable" "bag" "LScissorsTable$Bag;") (by decide +kernel)) (fun _ h9 => h9) rfl dX10_alikeCouples_19 ?_
  refine lv_iload_n hx hb dX10_alikeCouples_22 rfl (lv_at hl 3 rfl) ?_
  have hPc := hP.sub (ws' := [(xBag, .inr (1, [.ref bC, .ref bS, .ref bX, .ref bW, .ref bP, .int 0]))]) [1] rfl
  have hDc := hD.sub (ws' := [(xBag, .inr (1, [.ref bC, .ref bS, .ref bX, .ref bW, .ref bP, .int 0]))]) [1] (by decide) rfl
  have hFc := va_free (wc := [(xBag, .inr (1, [.ref bC, .ref bS, .ref bX, .ref bW, .ref bP, .int 0]))]) hD hS hA [1] rfl
  refine va_calli (va_runV (As := [.int 1]) (rest := []) ⟨hx, hb, hml, hown, hts⟩ (c_X1_tetsOfSolid l dC dI cB cI cJ H.size xBag bC bS bX bW bP 1) (cwV 1 hts gX10_alikeCouples_X1_tetsOfSolid rfl rfl rfl (by decide +kernel) ⟨Nat.le_of_ble_eq_true rfl, Nat.le_of_ble_eq_true rfl⟩) ⟨fun a U g mk q => by obtain ⟨q0, q1, qP, qK, qD⟩ := q; exact ⟨q0, q1, qP, va_K.moved (u := U) (U := U.calling g mk a) (Vm.Alike.refl U.vm) qK, qD⟩, va_recv hK hP (ci := 1) (q0 := 1) rfl rfl, fun U hU hW => ⟨rfl, by rw [hU], by rw [hU]; exact hPc, va_K.moved hW.alike hK, hDc.weaken (fun _ _ _ _ => trivial)⟩⟩ rfl rfl hl.1 rfl (lv_room (Nat.le_of_ble_eq_true rfl)) dX10_alikeCouples_23 ⟨Nat.le_of_ble_eq_true rfl, Nat.le_of_ble_eq_true rfl⟩) hS (fun q _ h => hFc q h) hFc (fun r_11 u t H1 locs ht hvm hw hB hz1 hk1 hS => ?_)
  obtain ⟨hP1, hK1, hD1⟩ := hB
  rw [ht] at hP1
  obtain ⟨hP, hD⟩ := va_join (wr := [(x0, .inr (10, [.ref xTape, .ref xReader, .ref xBag, .ref xBld, .ref xAng, .ref xSum, .ref xPik, .int 0, .ref xHan, .ref xIns, .ref xShr, .ref xSta, .ref xTur]))]) (w1 := [(xBag, .inr (1, [.ref bC, .ref bS, .ref bX, .ref bW, .ref bP, .int 0]))]) hP hD [1] [0] rfl rfl (by decide) (by decide) hk1 hFc hP1 hD1
  generalize H1 = H at hP hS ⊢
  have hP : va_P (dC, dI) vwCl [(x0, .inr (10, [.ref xTape, .ref xReader, .ref xBag, .ref xBld, .ref xAng, .ref xSum, .ref xPik, .int 0, .ref xHan, .ref xIns, .ref xShr, .ref xSta, .ref xTur])), (xBag, .inr (1, [.ref bC, .ref bS, .ref bX, .ref bW, .ref bP, .int 0]))] H := hP
  have hD : va_D A [(x0, .inr (10, [.ref xTape, .ref xReader, .ref xBag, .ref xBld, .ref xAng, .ref xSum, .ref xPik, .int 0, .ref xHan, .ref xIns, .ref xShr, .ref xSta, .ref xTur])), (xBag, .inr (1, [.ref bC, .ref bS, .ref bX, .ref bW, .ref bP, .int 0]))] := hD
  have hr_11 := hw
  obtain rfl : r_11 = 0 := hr_11
  refine lv_if_le (tgt := 44) hx hb dX10_alikeCouples_26 (by decide) (fun _ => ?_) (fun c => absurd (by decide) c)
  refine lv_iconst (v := 0) hx hb dX10_alikeCouples_44 (by decide) ?_
  refine lv_istore (lv' := [(4, .int 0), (3, .int 3), (1, .int 0), (2, .int 1), (0, .ref x0)]) hx hb dX10_alikeCouples_45 hl (by decide) rfl (fun ls hl => ?_)
  refine lv_iload_n hx hb dX10_alikeCouples_47 rfl (lv_at hl 2 rfl) ?_
  refine lv_iload hx hb dX10_alikeCouples_48 (lv_at hl 0 rfl) ?_
  refine lv_if_eq (tgt := 66) hx hb dX10_alikeCouples_50 (by decide) (fun _ => ?_) (fun c => absurd (by decide) c)
  refine lv_iconst (v := 0) hx hb dX10_alikeCouples_66 (by decide) ?_
  refine lv_iadd hx hb dX10_alikeCouples_67 ?_
  refine lv_topi (fun x_12 ex_12 => ?_)
  obtain rfl : x_12 = 0 := ex_12.trans (by first | rfl | decide)
  refine lv_istore_n (lv' := [(1, .int 0), (4, .int 0), (3, .int 3), (2, .int 1), (0, .ref x0)]) hx hb dX10_alikeCouples_68 rfl hl (by decide) rfl (fun ls hl => ?_)
  refine lv_iinc (v := 4) (lv' := [(3, .int 4), (1, .int 0), (4, .int 0), (2, .int 1), (0, .ref x0)]) hx hb dX10_alikeCouples_69 hl (k := 2) rfl (by decide) (by decide) rfl (fun ls hl => ?_)
  refine lv_goto (tgt := 13) hx hb dX10_alikeCouples_72 (by decide) ?_
  refine lv_iload_n hx hb dX10_alikeCouples_13 rfl (lv_at hl 0 rfl) ?_
  refine lv_iconst (v := 4) hx hb dX10_alikeCouples_14 (by decide) ?_
  refine lv_icmp_ge (tgt := 75) hx hb dX10_alikeCouples_15 (by decide) (fun _ => ?_) (fun c => absurd (by decide) c)
  refine lv_iinc (v := 2) (lv' := [(2, .int 2), (3, .int 4), (1, .int 0), (4, .int 0), (0, .ref x0)]) hx hb dX10_alikeCouples_75 hl (k := 3) rfl (by decide) (by decide) rfl (fun ls hl => ?_)
  refine lv_goto (tgt := 4) hx hb dX10_alikeCouples_78 (by decide) ?_
  refine lv_iload_n hx hb dX10_alikeCouples_4 rfl (lv_at hl 0 rfl) ?_
  refine lv_iconst (v := 4) hx hb dX10_alikeCouples_5 (by decide) ?_
  refine lv_icmp_ge (tgt := 81) hx hb dX10_alikeCouples_6 (by decide) (fun c => absurd c (by decide)) (fun _ => ?_)
  refine lv_iload_n hx hb dX10_alikeCouples_9 rfl (lv_at hl 0 rfl) ?_
  refine lv_iconst (v := 1) hx hb dX10_alikeCouples_10 (by decide) ?_
  refine lv_iadd hx hb dX10_alikeCouples_11 ?_
  refine lv_topi (fun x_13 ex_13 => ?_)
  obtain rfl : x_13 = 3 := ex_13.trans (by first | rfl | decide)
  refine lv_istore_n (lv' := [(3, .int 3), (2, .int 2), (1, .int 0), (4, .int 0), (0, .ref x0)]) hx hb dX10_alikeCouples_12 rfl hl (by decide) rfl (fun ls hl => ?_)
  refine lv_iload_n hx hb dX10_alikeCouples_13 rfl (lv_at hl 0 rfl) ?_
  refine lv_iconst (v := 4) hx hb dX10_alikeCouples_14 (by decide) ?_
  refine lv_icmp_ge (tgt := 75) hx hb dX10_alikeCouples_15 (by decide) (fun c => absurd c (by decide)) (fun _ => ?_)
  refine lv_aload_n hx hb dX10_alikeCouples_18 rfl (lv_at hl 4 rfl) ?_
  refine va_get (D := (dC, dI)) (ci := 10) (v := .ref xBag) (C := RX10) (T := TX10) (N := 13) hx hb hts hiX10 hown hK hP 0 rfl rfl 2 (by decide) (hts (.fieldLink RX10 28 "ScissorsTable" "bag" "LScissorsTable$Bag;") (by decide +kernel)) (fun _ h9 => h9) rfl dX10_alikeCouples_19 ?_
  refine lv_iload_n hx hb dX10_alikeCouples_22 rfl (lv_at hl 1 rfl) ?_
  have hPc := hP.sub (ws' := [(xBag, .inr (1, [.ref bC, .ref bS, .ref bX, .ref bW, .ref bP, .int 0]))]) [1] rfl
  have hDc := hD.sub (ws' := [(xBag, .inr (1, [.ref bC, .ref bS, .ref bX, .ref bW, .ref bP, .int 0]))]) [1] (by decide) rfl
  have hFc := va_free (wc := [(xBag, .inr (1, [.ref bC, .ref bS, .ref bX, .ref bW, .ref bP, .int 0]))]) hD hS hA [1] rfl
  refine va_calli (va_runV (As := [.int 2]) (rest := []) ⟨hx, hb, hml, hown, hts⟩ (c_X1_tetsOfSolid l dC dI cB cI cJ H.size xBag bC bS bX bW bP 2) (cwV 1 hts gX10_alikeCouples_X1_tetsOfSolid rfl rfl rfl (by decide +kernel) ⟨Nat.le_of_ble_eq_true rfl, Nat.le_of_ble_eq_true rfl⟩) ⟨fun a U g mk q => by obtain ⟨q0, q1, qP, qK, qD⟩ := q; exact ⟨q0, q1, qP, va_K.moved (u := U) (U := U.calling g mk a) (Vm.Alike.refl U.vm) qK, qD⟩, va_recv hK hP (ci := 1) (q0 := 1) rfl rfl, fun U hU hW => ⟨rfl, by rw [hU], by rw [hU]; exact hPc, va_K.moved hW.alike hK, hDc.weaken (fun _ _ _ _ => trivial)⟩⟩ rfl rfl hl.1 rfl (lv_room (Nat.le_of_ble_eq_true rfl)) dX10_alikeCouples_23 ⟨Nat.le_of_ble_eq_true rfl, Nat.le_of_ble_eq_true rfl⟩) hS (fun q _ h => hFc q h) hFc (fun r_14 u t H1 locs ht hvm hw hB hz1 hk1 hS => ?_)
  obtain ⟨hP1, hK1, hD1⟩ := hB
  rw [ht] at hP1
  obtain ⟨hP, hD⟩ := va_join (wr := [(x0, .inr (10, [.ref xTape, .ref xReader, .ref xBag, .ref xBld, .ref xAng, .ref xSum, .ref xPik, .int 0, .ref xHan, .ref xIns, .ref xShr, .ref xSta, .ref xTur]))]) (w1 := [(xBag, .inr (1, [.ref bC, .ref bS, .ref bX, .ref bW, .ref bP, .int 0]))]) hP hD [1] [0] rfl rfl (by decide) (by decide) hk1 hFc hP1 hD1
  generalize H1 = H at hP hS ⊢
  have hP : va_P (dC, dI) vwCl [(x0, .inr (10, [.ref xTape, .ref xReader, .ref xBag, .ref xBld, .ref xAng, .ref xSum, .ref xPik, .int 0, .ref xHan, .ref xIns, .ref xShr, .ref xSta, .ref xTur])), (xBag, .inr (1, [.ref bC, .ref bS, .ref bX, .ref bW, .ref bP, .int 0]))] H := hP
  have hD : va_D A [(x0, .inr (10, [.ref xTape, .ref xReader, .ref xBag, .ref xBld, .ref xAng, .ref xSum, .ref xPik, .int 0, .ref xHan, .ref xIns, .ref xShr, .ref xSta, .ref xTur])), (xBag, .inr (1, [.ref bC, .ref bS, .ref bX, .ref bW, .ref bP, .int 0]))] := hD
  have hr_14 := hw
  obtain rfl : r_14 = 0 := hr_14
  refine lv_if_le (tgt := 44) hx hb dX10_alikeCouples_26 (by decide) (fun _ => ?_) (fun c => absurd (by decide) c)
  refine lv_iconst (v := 0) hx hb dX10_alikeCouples_44 (by decide) ?_
  refine lv_istore (lv' := [(4, .int 0), (3, .int 3), (2, .int 2), (1, .int 0), (0, .ref x0)]) hx hb dX10_alikeCouples_45 hl (by decide) rfl (fun ls hl => ?_)
  refine lv_iload_n hx hb dX10_alikeCouples_47 rfl (lv_at hl 3 rfl) ?_
  refine lv_iload hx hb dX10_alikeCouples_48 (lv_at hl 0 rfl) ?_
  refine lv_if_eq (tgt := 66) hx hb dX10_alikeCouples_50 (by decide) (fun _ => ?_) (fun c => absurd (by decide) c)
  refine lv_iconst (v := 0) hx hb dX10_alikeCouples_66 (by decide) ?_
  refine lv_iadd hx hb dX10_alikeCouples_67 ?_
  refine lv_topi (fun x_15 ex_15 => ?_)
  obtain rfl : x_15 = 0 := ex_15.trans (by first | rfl | decide)
  refine lv_istore_n (lv' := [(1, .int 0), (4, .int 0), (3, .int 3), (2, .int 2), (0, .ref x0)]) hx hb dX10_alikeCouples_68 rfl hl (by decide) rfl (fun ls hl => ?_)
  refine lv_iinc (v := 4) (lv' := [(3, .int 4), (1, .int 0), (4, .int 0), (2, .int 2), (0, .ref x0)]) hx hb dX10_alikeCouples_69 hl (k := 2) rfl (by decide) (by decide) rfl (fun ls hl => ?_)
  refine lv_goto (tgt := 13) hx hb dX10_alikeCouples_72 (by decide) ?_
  refine lv_iload_n hx hb dX10_alikeCouples_13 rfl (lv_at hl 0 rfl) ?_
  refine lv_iconst (v := 4) hx hb dX10_alikeCouples_14 (by decide) ?_
  refine lv_icmp_ge (tgt := 75) hx hb dX10_alikeCouples_15 (by decide) (fun _ => ?_) (fun c => absurd (by decide) c)
  refine lv_iinc (v := 3) (lv' := [(2, .int 3), (3, .int 4), (1, .int 0), (4, .int 0), (0, .ref x0)]) hx hb dX10_alikeCouples_75 hl (k := 3) rfl (by decide) (by decide) rfl (fun ls hl => ?_)
  refine lv_goto (tgt := 4) hx hb dX10_alikeCouples_78 (by decide) ?_
  refine lv_iload_n hx hb dX10_alikeCouples_4 rfl (lv_at hl 0 rfl) ?_
  refine lv_iconst (v := 4) hx hb dX10_alikeCouples_5 (by decide) ?_
  refine lv_icmp_ge (tgt := 81) hx hb dX10_alikeCouples_6 (by decide) (fun c => absurd c (by decide)) (fun _ => ?_)
  refine lv_iload_n hx hb dX10_alikeCouples_9 rfl (lv_at hl 0 rfl) ?_
  refine lv_iconst (v := 1) hx hb dX10_alikeCouples_10 (by decide) ?_
  refine lv_iadd hx hb dX10_alikeCouples_11 ?_
  refine lv_topi (fun x_16 ex_16 => ?_)
  obtain rfl : x_16 = 4 := ex_16.trans (by first | rfl | decide)
  refine lv_istore_n (lv' := [(3, .int 4), (2, .int 3), (1, .int 0), (4, .int 0), (0, .ref x0)]) hx hb dX10_alikeCouples_12 rfl hl (by decide) rfl (fun ls hl => ?_)
  refine lv_iload_n hx hb dX10_alikeCouples_13 rfl (lv_at hl 0 rfl) ?_
  refine lv_iconst (v := 4) hx hb dX10_alikeCouples_14 (by decide) ?_
  refine lv_icmp_ge (tgt := 75) hx hb dX10_alikeCouples_15 (by decide) (fun _ => ?_) (fun c => absurd (by decide) c)
  refine lv_iinc (v := 4) (lv' := [(2, .int 4), (3, .int 4), (1, .int 0), (4, .int 0), (0, .ref x0)]) hx hb dX10_alikeCouples_75 hl (k := 1) rfl (by decide) (by decide) rfl (fun ls hl => ?_)
  refine lv_goto (tgt := 4) hx hb dX10_alikeCouples_78 (by decide) ?_
  refine lv_iload_n hx hb dX10_alikeCouples_4 rfl (lv_at hl 0 rfl) ?_
  refine lv_iconst (v := 4) hx hb dX10_alikeCouples_5 (by decide) ?_
  refine lv_icmp_ge (tgt := 81) hx hb dX10_alikeCouples_6 (by decide) (fun _ => ?_) (fun c => absurd (by decide) c)
  refine lv_iload_n hx hb dX10_alikeCouples_81 rfl (lv_at hl 2 rfl) ?_
  refine W.widen (k := 0) (n := 0) (Nat.le_of_ble_eq_true rfl) (Nat.le_of_ble_eq_true rfl) ?_
  exact W.iret (v := 0) hx hb hr (fun t ht hW => ⟨⟨0, (), rfl, rfl, trivial⟩, hS.F ht⟩) hS.2.2 dX10_alikeCouples_82
set_option maxHeartbeats 4000000 in
set_option maxRecDepth 100000 in
theorem c_X10_most (l : Launch) (dC : Nat → ClassId) (dI : Nat → Nat → Nat) (cB cI cJ : ClassId) (sz : Nat) (x0 xTape xReader xBag xBld xAng xSum xPik xHan xIns xShr xSta xTur bC bS bX bW bP sM sP sA : Nat) (p0 : Int32) : Met l yX10_most wsX10_most ({ frames := 3, cells := 0, slots := 0, locals := 71 }) (va_Pc [.ref x0, .int p0] (fun U => U.heap.size = sz ∧ va_P (dC, dI) vwCl [(x0, .inr (10, [.ref xTape, .ref xReader, .ref xBag, .ref xBld, .ref xAng, .ref xSum, .ref xPik, .int 0, .ref xHan, .ref xIns, .ref xShr, .ref xSta, .ref xTur])), (xBag, .inr (1, [.ref bC, .ref bS, .ref bX, .ref bW, .ref bP, .int 0])), (xSum, .inr (8, [.ref sM, .ref sP, .ref sA, .int 0]))] U.heap ∧ va_K (dC, dI) vwCl [(cB, .byte), (cI, .int), (cJ, .long)] U ∧ va_D (fun _ => True) [(x0, .inr (10, [.ref xTape, .ref xReader, .ref xBag, .ref xBld, .ref xAng, .ref xSum, .ref xPik, .int 0, .ref xHan, .ref xIns, .ref xShr, .ref xSta, .ref xTur])), (xBag, .inr (1, [.ref bC, .ref bS, .ref bX, .ref bW, .ref bP, .int 0])), (xSum, .inr (8, [.ref sM, .ref sP, .ref sA, .int 0]))])) (va_Qi (fun (r : Int32) (_ : Unit) => r = sp_most p0) (fun _ _ => True) (va_A [(x0, .inr (10, [.ref xTape, .ref xReader, .ref xBag, .ref xBld, .ref xAng, .ref xSum, .ref xPik, .int 0, .ref xHan, .ref xIns, .ref xShr, .ref xSta, .ref xTur])), (xBag, .inr (1, [.ref bC, .ref bS, .ref bX, .ref bW, .ref bP, .int 0])), (xSum, .inr (8, [.ref sM, .ref sP, .ref sA, .int 0]))] sz)) 0 0 (va_A [(x0, .inr (10, [.ref xTape, .ref xReader, .ref xBag, .ref xBld, .ref xAng, .ref xSum, .ref xPik, .int 0, .ref xHan, .ref xIns, .ref xShr, .ref xSta, .ref xTur])), (xBag, .inr (1, [.ref bC, .ref bS, .ref bX, .ref bW, .ref bP, .int 0])), (xSum, .inr (8, [.ref sM, .ref sP, .ref sA, .int 0]))] sz) := by
  refine Met.ofW (cc := cX10_most) (maxL := 2) (ret := (some .int)) (by decide) rfl ?_
  intro p e s m args below meth c s₁ B hml hv
  obtain ⟨rfl, hsz, hP, hK, hD0⟩ := hv
  have hx := B.exec
  have hb := B.bytes
  have hr := B.returns
  have hts := atoms_spec (ws := wsX10_most) B.pre
  have hown : s.vm.findClass RX10 = some m.cls := findClass_of_methodNamed B.named
  have hlocks := B.notSynchronized
  have hiX1 : ∀ w ∈ u_ws RX1 TX1 6, w ∈ wsX10_most := by decide +kernel
  have hiX10 : ∀ w ∈ u_ws RX10 TX10 13, w ∈ wsX10_most := by decide +kernel
  have hiX8 : ∀ w ∈ u_ws RX8 TX8 4, w ∈ wsX10_most := by decide +kernel
  subst hsz
  have hD := hD0.self (sz := s.heap.size)
  generalize hAe : va_A [(x0, .inr (10, [.ref xTape, .ref xReader, .ref xBag, .ref xBld, .ref xAng, .ref xSum, .ref xPik, .int 0, .ref xHan, .ref xIns, .ref xShr, .ref xSta, .ref xTur])), (xBag, .inr (1, [.ref bC, .ref bS, .ref bX, .ref bW, .ref bP, .int 0])), (xSum, .inr (8, [.ref sM, .ref sP, .ref sA, .int 0]))] s.heap.size = A at hD ⊢
  have hA : ∀ q : Nat, s.heap.size ≤ q → A q := fun q h => by rw [← hAe]; exact Or.inr h
  have hS : va_S A s.heap s.heap [] := va_S.rf
  have hP : va_P (dC, dI) vwCl [(x0, .inr (10, [.ref xTape, .ref xReader, .ref xBag, .ref xBld, .ref xAng, .ref xSum, .ref xPik, .int 0, .ref xHan, .ref xIns, .ref xShr, .ref xSta, .ref xTur])), (xBag, .inr (1, [.ref bC, .ref bS, .ref bX, .ref bW, .ref bP, .int 0])), (xSum, .inr (8, [.ref sM, .ref sP, .ref sA, .int 0]))] s.heap := hP
  have hl := lv_entry ([.ref x0, .int p0]) (n := 2) (Nat.le_of_ble_eq_true rfl)
  rw [lg_entry_eq]
  generalize (lg_sl ([.ref x0, .int p0]) ++ List.replicate (2 - (lg_sl ([.ref x0, .int p0])).length) Slot.unset).toArray = ls at hl ⊢
  have hl : lv_has ls 2 [(0, .ref x0), (1, .int p0)] := hl
  refine lv_iload_n hx hb dX10_most_0 rfl (lv_at hl 1 rfl) ?_
  by_cases s_1 : p0 = 0
  · subst s_1
    refine lv_tableIn (off := 43) (tgt := 44) hx hb dX10_most_1 (by decide) (by decide) (by decide) (by decide) ?_
    refine lv_aload_n hx hb dX10_most_44 rfl (lv_at hl 0 rfl) ?_
    refine va_get (D := (dC, dI)) (ci := 10) (v := .ref xSum) (C := RX10) (T := TX10) (N := 13) hx hb hts hiX10 hown hK hP 0 rfl rfl 5 (by decide) (hts (.fieldLink RX10 51 "ScissorsTable" "sums" "LScissorsTable$Sums;") (by decide +kernel)) (fun _ h9 => h9) rfl dX10_most_45 ?_
    refine lv_aload_n hx hb dX10_most_48 rfl (lv_at hl 0 rfl) ?_
    refine va_get (D := (dC, dI)) (ci := 10) (v := .ref xSum) (C := RX10) (T := TX10) (N := 13) hx hb hts hiX10 hown hK hP 0 rfl rfl 5 (by decide) (hts (.fieldLink RX10 51 "ScissorsTable" "sums" "LScissorsTable$Sums;") (by decide +kernel)) (fun _ h9 => h9) rfl dX10_most_49 ?_
    refine va_get (D := (dC, dI)) (ci := 8) (v := .ref sM) (C := RX8) (T := TX8) (N := 4) hx hb hts hiX8 hown hK hP 2 rfl rfl 0 (by decide) (hts (.fieldLink RX10 213 "ScissorsTable$Sums" "ms" "[I") (by decide +kernel)) (fun _ h9 => h9) rfl dX10_most_52 ?_
    have hPc := hP.sub (ws' := [(xSum, .inr (8, [.ref sM, .ref sP, .ref sA, .int 0]))]) [2] rfl
    have hDc := hD.sub (ws' := [(xSum, .inr (8, [.ref sM, .ref sP, .ref sA, .int 0]))]) [2] (by decide) rfl
    have hFc := va_free (wc := [(xSum, .inr (8, [.ref sM, .ref sP, .ref sA, .int 0]))]) hD hS hA [2] rfl
    refine va_calli (va_runV (As := [.ref sM]) (rest := []) ⟨hx, hb, hml, hown, hts⟩ (c_X8_greatest l dC dI cB cI cJ s.heap.size xSum sM sP sA sM) (cwV 1 hts gX10_most_X8_greatest rfl rfl rfl (by decide +kernel) ⟨Nat.le_of_ble_eq_true rfl, Nat.le_of_ble_eq_true rfl⟩) ⟨fun a U g mk q => by obtain ⟨q0, q1, qP, qK, qD⟩ := q; exact ⟨q0, q1, qP, va_K.moved (u := U) (U := U.calling g mk a) (Vm.Alike.refl U.vm) qK, qD⟩, va_recv hK hP (ci := 8) (q0 := 2) rfl rfl, fun U hU hW => ⟨rfl, by rw [hU], by rw [hU]; exact hPc, va_K.moved hW.alike hK, hDc.weaken (fun _ _ _ _ => trivial)⟩⟩ rfl rfl hl.1 rfl (lv_room (Nat.le_of_ble_eq_true rfl)) dX10_most_55 ⟨Nat.le_of_ble_eq_true rfl, Nat.le_of_ble_eq_true rfl⟩) hS (fun q _ h => hFc q h) hFc (fun r_2 u t H1 locs ht hvm hw hB hz1 hk1 hS => ?_)
    have hP1 : va_P (dC, dI) vwCl [] H1 := fun k q h => by simp at h
    have hD1 : va_D (va_A [(xSum, .inr (8, [.ref sM, .ref sP, .ref sA, .int 0]))] s.heap.size) [] := ⟨fun i j p q h => by simp at h, fun k q h => by simp at h⟩
    obtain ⟨hP, hD⟩ := va_join (wr := [(x0, .inr (10, [.ref xTape, .ref xReader, .ref xBag, .ref xBld, .ref xAng, .ref xSum, .ref xPik, .int 0, .ref xHan, .ref xIns, .ref xShr, .ref xSta, .ref xTur])), (xBag, .inr (1, [.ref bC, .ref bS, .ref bX, .ref bW, .ref bP, .int 0]))]) (w1 := []) hP hD [2] [0, 1] rfl rfl (by decide) (by decide) hk1 hFc hP1 hD1
    generalize H1 = H at hP hS ⊢
    have hP : va_P (dC, dI) vwCl [(x0, .inr (10, [.ref xTape, .ref xReader, .ref xBag, .ref xBld, .ref xAng, .ref xSum, .ref xPik, .int 0, .ref xHan, .ref xIns, .ref xShr, .ref xSta, .ref xTur])), (xBag, .inr (1, [.ref bC, .ref bS, .ref bX, .ref bW, .ref bP, .int 0]))] H := hP
    have hD : va_D A [(x0, .inr (10, [.ref xTape, .ref xReader, .ref xBag, .ref xBld, .ref xAng, .ref xSum, .ref xPik, .int 0, .ref xHan, .ref xIns, .ref xShr, .ref xSta, .ref xTur])), (xBag, .inr (1, [.ref bC, .ref bS, .ref bX, .ref bW, .ref bP, .int 0]))] := hD
    have hr_2 := hw
    obtain rfl : r_2 = 0 := hr_2
    refine W.widen (k := 0) (n := 0) (Nat.le_of_ble_eq_true rfl) (Nat.le_of_ble_eq_true rfl) ?_
    exact W.iret (v := 0) hx hb hr (fun t ht hW => ⟨⟨0, (), rfl, (by (unfold sp_most; first | rfl | decide | (rw [if_pos (by first | omega | (simp only [nk_lt, nk_le, nk_eq, nk_wd, nk_c0, nk_c1, nk_c2, nk_c3, nk_c4, nk_c5, nk_c6, nk_c15, nk_c16, nk_c24, nk_c47, nk_c48, nk_c600, nk_c1728, nk_m1, nk_l0, nk_l1, nk_l2, nk_l3, nk_l5, nk_l15, nk_l24, nk_l47]; omega) | (simp only [nk_lt, nk_le, nk_eq, nk_wd, nk_c0, nk_c1, nk_c2, nk_c3, nk_c4, nk_c5, nk_c6, nk_c15, nk_c16, nk_c24, nk_c47, nk_c48, nk_c600, nk_c1728, nk_m1, nk_l0, nk_l1, nk_l2, nk_l3, nk_l5, nk_l15, nk_l24, nk_l47]; done))]) | (rw [if_neg (by first | omega | (simp only [nk_lt, nk_le, nk_eq, nk_wd, nk_c0, nk_c1, nk_c2, nk_c3, nk_c4, nk_c5, nk_c6, nk_c15, nk_c16, nk_c24, nk_c47, nk_c48, nk_c600, nk_c1728, nk_m1, nk_l0, nk_l1, nk_l2, nk_l3, nk_l5, nk_l15, nk_l24, nk_l47]; omega) | (simp only [nk_lt, nk_le, nk_eq, nk_wd, nk_c0, nk_c1, nk_c2, nk_c3, nk_c4, nk_c5, nk_c6, nk_c15, nk_c16, nk_c24, nk_c47, nk_c48, nk_c600, nk_c1728, nk_m1, nk_l0, nk_l1, nk_l2, nk_l3, nk_l5, nk_l15, nk_l24, nk_l47]; done))]))), trivial⟩, hS.F ht⟩) hS.2.2 dX10_most_58
  by_cases s_3 : p0 = 1
  · subst s_3
    refine lv_tableIn (off := 58) (tgt := 59) hx hb dX10_most_1 (by decide) (by decide) (by decide) (by decide) ?_
    refine lv_aload_n hx hb dX10_most_59 rfl (lv_at hl 0 rfl) ?_
    refine va_get (D := (dC, dI)) (ci := 10) (v := .ref xSum) (C := RX10) (T := TX10) (N := 13) hx hb hts hiX10 hown hK hP 0 rfl rfl 5 (by decide) (hts (.fieldLink RX10 51 "ScissorsTable" "sums" "LScissorsTable$Sums;") (by decide +kernel)) (fun _ h9 => h9) rfl dX10_most_60 ?_
    refine lv_aload_n hx hb dX10_most_63 rfl (lv_at hl 0 rfl) ?_
    refine va_get (D := (dC, dI)) (ci := 10) (v := .ref xSum) (C := RX10) (T := TX10) (N := 13) hx hb hts hiX10 hown hK hP 0 rfl rfl 5 (by decide) (hts (.fieldLink RX10 51 "ScissorsTable" "sums" "LScissorsTable$Sums;") (by decide +kernel)) (fun _ h9 => h9) rfl dX10_most_64 ?_
    refine va_get (D := (dC, dI)) (ci := 8) (v := .ref sP) (C := RX8) (T := TX8) (N := 4) hx hb hts hiX8 hown hK hP 2 rfl rfl 1 (by decide) (hts (.fieldLink RX10 216 "ScissorsTable$Sums" "ps" "[I") (by decide +kernel)) (fun _ h9 => h9) rfl dX10_most_67 ?_
    have hPc := hP.sub (ws' := [(xSum, .inr (8, [.ref sM, .ref sP, .ref sA, .int 0]))]) [2] rfl
    have hDc := hD.sub (ws' := [(xSum, .inr (8, [.ref sM, .ref sP, .ref sA, .int 0]))]) [2] (by decide) rfl
    have hFc := va_free (wc := [(xSum, .inr (8, [.ref sM, .ref sP, .ref sA, .int 0]))]) hD hS hA [2] rfl
    refine va_calli (va_runV (As := [.ref sP]) (rest := []) ⟨hx, hb, hml, hown, hts⟩ (c_X8_greatest l dC dI cB cI cJ s.heap.size xSum sM sP sA sP) (cwV 1 hts gX10_most_X8_greatest rfl rfl rfl (by decide +kernel) ⟨Nat.le_of_ble_eq_true rfl, Nat.le_of_ble_eq_true rfl⟩) ⟨fun a U g mk q => by obtain ⟨q0, q1, qP, qK, qD⟩ := q; exact ⟨q0, q1, qP, va_K.moved (u := U) (U := U.calling g mk a) (Vm.Alike.refl U.vm) qK, qD⟩, va_recv hK hP (ci := 8) (q0 := 2) rfl rfl, fun U hU hW => ⟨rfl, by rw [hU], by rw [hU]; exact hPc, va_K.moved hW.alike hK, hDc.weaken (fun _ _ _ _ => trivial)⟩⟩ rfl rfl hl.1 rfl (lv_room (Nat.le_of_ble_eq_true rfl)) dX10_most_70 ⟨Nat.le_of_ble_eq_true rfl, Nat.le_of_ble_eq_true rfl⟩) hS (fun q _ h => hFc q h) hFc (fun r_4 u t H1 locs ht hvm hw hB hz1 hk1 hS => ?_)
    have hP1 : va_P (dC, dI) vwCl [] H1 := fun k q h => by simp at h
    have hD1 : va_D (va_A [(xSum, .inr (8, [.ref sM, .ref sP, .ref sA, .int 0]))] s.heap.size) [] := ⟨fun i j p q h => by simp at h, fun k q h => by simp at h⟩
    obtain ⟨hP, hD⟩ := va_join (wr := [(x0, .inr (10, [.ref xTape, .ref xReader, .ref xBag, .ref xBld, .ref xAng, .ref xSum, .ref xPik, .int 0, .ref xHan, .ref xIns, .ref xShr, .ref xSta, .ref xTur])), (xBag, .inr (1, [.ref bC, .ref bS, .ref bX, .ref bW, .ref bP, .int 0]))]) (w1 := []) hP hD [2] [0, 1] rfl rfl (by decide) (by decide) hk1 hFc hP1 hD1
    generalize H1 = H at hP hS ⊢
    have hP : va_P (dC, dI) vwCl [(x0, .inr (10, [.ref xTape, .ref xReader, .ref xBag, .ref xBld, .ref xAng, .ref xSum, .ref xPik, .int 0, .ref xHan, .ref xIns, .ref xShr, .ref xSta, .ref xTur])), (xBag, .inr (1, [.ref bC, .ref bS, .ref bX, .ref bW, .ref bP, .int 0]))] H := hP
    have hD : va_D A [(x0, .inr (10, [.ref xTape, .ref xReader, .ref xBag, .ref xBld, .ref xAng, .ref xSum, .ref xPik, .int 0, .ref xHan, .ref xIns, .ref xShr, .ref xSta, .ref xTur])), (xBag, .inr (1, [.ref bC, .ref bS, .ref bX, .ref bW, .ref bP, .int 0]))] := hD
    have hr_4 := hw
    obtain rfl : r_4 = 0 := hr_4
    refine W.widen (k := 0) (n := 0) (Nat.le_of_ble_eq_true rfl) (Nat.le_of_ble_eq_true rfl) ?_
    exact W.iret (v := 0) hx hb hr (fun t ht hW => ⟨⟨0, (), rfl, (by (try simp only [nk_lt, nk_le, nk_eq, nk_wd, nk_c0, nk_c1, nk_c2, nk_c3, nk_c4, nk_c5, nk_c6, nk_c15, nk_c16, nk_c24, nk_c47, nk_c48, nk_c600, nk_c1728, nk_m1, nk_l0, nk_l1, nk_l2, nk_l3, nk_l5, nk_l15, nk_l24, nk_l47] at s_1); (unfold sp_most; first | rfl | decide | (rw [if_pos (by first | omega | (simp only [nk_lt, nk_le, nk_eq, nk_wd, nk_c0, nk_c1, nk_c2, nk_c3, nk_c4, nk_c5, nk_c6, nk_c15, nk_c16, nk_c24, nk_c47, nk_c48, nk_c600, nk_c1728, nk_m1, nk_l0, nk_l1, nk_l2, nk_l3, nk_l5, nk_l15, nk_l24, nk_l47]; omega) | (simp only [nk_lt, nk_le, nk_eq, nk_wd, nk_c0, nk_c1, nk_c2, nk_c3, nk_c4, nk_c5, nk_c6, nk_c15, nk_c16, nk_c24, nk_c47, nk_c48, nk_c600, nk_c1728, nk_m1, nk_l0, nk_l1, nk_l2, nk_l3, nk_l5, nk_l15, nk_l24, nk_l47]; done))]) | (rw [if_neg (by first | omega | (simp only [nk_lt, nk_le, nk_eq, nk_wd, nk_c0, nk_c1, nk_c2, nk_c3, nk_c4, nk_c5, nk_c6, nk_c15, nk_c16, nk_c24, nk_c47, nk_c48, nk_c600, nk_c1728, nk_m1, nk_l0, nk_l1, nk_l2, nk_l3, nk_l5, nk_l15, nk_l24, nk_l47]; omega) | (simp only [nk_lt, nk_le, nk_eq, nk_wd, nk_c0, nk_c1, nk_c2, nk_c3, nk_c4, nk_c5, nk_c6, nk_c15, nk_c16, nk_c24, nk_c47, nk_c48, nk_c600, nk_c1728, nk_m1, nk_l0, nk_l1, nk_l2, nk_l3, nk_l5, nk_l15, nk_l24, nk_l47]; done))]))), trivial⟩, hS.F ht⟩) hS.2.2 dX10_most_73
  by_cases s_5 : p0 = 2
  · subst s_5
    refine lv_tableIn (off := 73) (tgt := 74) hx hb dX10_most_1 (by decide) (by decide) (by decide) (by decide) ?_
    refine lv_aload_n hx hb dX10_most_74 rfl (lv_at hl 0 rfl) ?_
    refine va_get (D := (dC, dI)) (ci := 10) (v := .ref xBag) (C := RX10) (T := TX10) (N := 13) hx hb hts hiX10 hown hK hP 0 rfl rfl 2 (by decide) (hts (.fieldLink RX10 28 "ScissorsTable" "bag" "LScissorsTable$Bag;") (by decide +kernel)) (fun _ h9 => h9) rfl dX10_most_75 ?_
    refine va_get (D := (dC, dI)) (ci := 1) (v := .int 0) (C := RX1) (T := TX1) (N := 6) hx hb hts hiX1 hown hK hP 1 rfl rfl 5 (by decide) (hts (.fieldLink RX10 108 "ScissorsTable$Bag" "size" "I") (by decide +kernel)) (fun _ h9 => h9) rfl dX10_most_78 ?_
    refine lv_bipush (v := 6) hx hb dX10_most_81 (by decide) ?_
    refine lv_imul hx hb dX10_most_83 ?_
    refine lv_topi (fun x_6 ex_6 => ?_)
    obtain rfl : x_6 = 0 := ex_6.trans (by first | rfl | decide)
    refine lv_aload_n hx hb dX10_most_84 rfl (lv_at hl 0 rfl) ?_
    refine lv_iconst (v := (-1)) hx hb dX10_most_85 (by decide) ?_
    have hPc := hP.sub (ws' := [(x0, .inr (10, [.ref xTape, .ref xReader, .ref xBag, .ref xBld, .ref xAng, .ref xSum, .ref xPik, .int 0, .ref xHan, .ref xIns, .ref xShr, .ref xSta, .ref xTur])), (xBag, .inr (1, [.ref bC, .ref bS, .ref bX, .ref bW, .ref bP, .int 0]))]) [0, 1] rfl
    have hDc := hD.sub (ws' := [(x0, .inr (10, [.ref xTape, .ref xReader, .ref xBag, .ref xBld, .ref xAng, .ref xSum, .ref xPik, .int 0, .ref xHan, .ref xIns, .ref xShr, .ref xSta, .ref xTur])), (xBag, .inr (1, [.ref bC, .ref bS, .ref bX, .ref bW, .ref bP, .int 0]))]) [0, 1] (by decide) rfl
    have hFc := va_free (wc := [(x0, .inr (10, [.ref xTape, .ref xReader, .ref xBag, .ref xBld, .ref xAng, .ref xSum, .ref xPik, .int 0, .ref xHan, .ref xIns, .ref xShr, .ref xSta, .ref xTur])), (xBag, .inr (1, [.ref bC, .ref bS, .ref bX, .ref bW, .ref bP, .int 0]))]) hD hS hA [0, 1] rfl
    refine va_calli (va_runV (As := [.int (-1)]) (rest := [.int 0]) ⟨hx, hb, hml, hown, hts⟩ (c_X10_oddEdges l dC dI cB cI cJ s.heap.size x0 xTape xReader xBag xBld xAng xSum xPik xHan xIns xShr xSta xTur bC bS bX bW bP (-1)) (cwV 1 hts gX10_most_X10_oddEdges rfl rfl rfl (by decide +kernel) ⟨Nat.le_of_ble_eq_true rfl, Nat.le_of_ble_eq_true rfl⟩) ⟨fun a U g mk q => by obtain ⟨q0, q1, qP, qK, qD⟩ := q; exact ⟨q0, q1, qP, va_K.moved (u := U) (U := U.calling g mk a) (Vm.Alike.refl U.vm) qK, qD⟩, va_recv hK hP (ci := 10) (q0 := 0) rfl rfl, fun U hU hW => ⟨rfl, by rw [hU], by rw [hU]; exact hPc, va_K.moved hW.alike hK, hDc.weaken (fun _ _ _ _ => trivial)⟩⟩ rfl rfl hl.1 rfl (lv_room (Nat.le_of_ble_eq_true rfl)) dX10_most_86 ⟨Nat.le_of_ble_eq_true rfl, Nat.le_of_ble_eq_true rfl⟩) hS (fun q _ h => hFc q h) hFc (fun r_7 u t H1 locs ht hvm hw hB hz1 hk1 hS => ?_)
    obtain ⟨hP1, hK1, hD1⟩ := hB
    rw [ht] at hP1
    obtain ⟨hP, hD⟩ := va_join (wr := [(xSum, .inr (8, [.ref sM, .ref sP, .ref sA, .int 0]))]) (w1 := [(x0, .inr (10, [.ref xTape, .ref xReader, .ref xBag, .ref xBld, .ref xAng, .ref xSum, .ref xPik, .int 0, .ref xHan, .ref xIns, .ref xShr, .ref xSta, .ref xTur])), (xBag, .inr (1, [.ref bC, .ref bS, .ref bX, .ref bW, .ref bP, .int 0]))]) hP hD [0, 1] [2] rfl rfl (by decide) (by decide) hk1 hFc hP1 hD1
    generalize H1 = H at hP hS ⊢
    have hP : va_P (dC, dI) vwCl [(xSum, .inr (8, [.ref sM, .ref sP, .ref sA, .int 0])), (x0, .inr (10, [.ref xTape, .ref xReader, .ref xBag, .ref xBld, .ref xAng, .ref xSum, .ref xPik, .int 0, .ref xHan, .ref xIns, .ref xShr, .ref xSta, .ref xTur])), (xBag, .inr (1, [.ref bC, .ref bS, .ref bX, .ref bW, .ref bP, .int 0]))] H := hP
    have hD : va_D A [(xSum, .inr (8, [.ref sM, .ref sP, .ref sA, .int 0])), (x0, .inr (10, [.ref xTape, .ref xReader, .ref xBag, .ref xBld, .ref xAng, .ref xSum, .ref xPik, .int 0, .ref xHan, .ref xIns, .ref xShr, .ref xSta, .ref xTur])), (xBag, .inr (1, [.ref bC, .ref bS, .ref bX, .ref bW, .ref bP, .int 0]))] := hD
    have hr_7 := hw
    obtain rfl : r_7 = 0 := hr_7
    refine lv_isub hx hb dX10_most_89 ?_
    refine lv_topi (fun x_8 ex_8 => ?_)
    obtain rfl : x_8 = 0 := ex_8.trans (by first | rfl | decide)
    refine W.widen (k := 0) (n := 0) (Nat.le_of_ble_eq_true rfl) (Nat.le_of_ble_eq_true rfl) ?_
    exact W.iret (v := 0) hx hb hr (fun t ht hW => ⟨⟨0, (), rfl, (by (try simp only [nk_lt, nk_le, nk_eq, nk_wd, nk_c0, nk_c1, nk_c2, nk_c3, nk_c4, nk_c5, nk_c6, nk_c15, nk_c16, nk_c24, nk_c47, nk_c48, nk_c600, nk_c1728, nk_m1, nk_l0, nk_l1, nk_l2, nk_l3, nk_l5, nk_l15, nk_l24, nk_l47] at s_1 s_3); (unfold sp_most; first | rfl | decide | (rw [if_pos (by first | omega | (simp only [nk_lt, nk_le, nk_eq, nk_wd, nk_c0, nk_c1, nk_c2, nk_c3, nk_c4, nk_c5, nk_c6, nk_c15, nk_c16, nk_c24, nk_c47, nk_c48, nk_c600, nk_c1728, nk_m1, nk_l0, nk_l1, nk_l2, nk_l3, nk_l5, nk_l15, nk_l24, nk_l47]; omega) | (simp only [nk_lt, nk_le, nk_eq, nk_wd, nk_c0, nk_c1, nk_c2, nk_c3, nk_c4, nk_c5, nk_c6, nk_c15, nk_c16, nk_c24, nk_c47, nk_c48, nk_c600, nk_c1728, nk_m1, nk_l0, nk_l1, nk_l2, nk_l3, nk_l5, nk_l15, nk_l24, nk_l47]; done))]) | (rw [if_neg (by first | omega | (simp only [nk_lt, nk_le, nk_eq, nk_wd, nk_c0, nk_c1, nk_c2, nk_c3, nk_c4, nk_c5, nk_c6, nk_c15, nk_c16, nk_c24, nk_c47, nk_c48, nk_c600, nk_c1728, nk_m1, nk_l0, nk_l1, nk_l2, nk_l3, nk_l5, nk_l15, nk_l24, nk_l47]; omega) | (simp only [nk_lt, nk_le, nk_eq, nk_wd, nk_c0, nk_c1, nk_c2, nk_c3, nk_c4, nk_c5, nk_c6, nk_c15, nk_c16, nk_c24, nk_c47, nk_c48, nk_c600, nk_c1728, nk_m1, nk_l0, nk_l1, nk_l2, nk_l3, nk_l5, nk_l15, nk_l24, nk_l47]; done))]))), trivial⟩, hS.F ht⟩) hS.2.2 dX10_most_90
  by_cases s_9 : p0 = 3
  · subst s_9
    refine lv_tableIn (off := 90) (tgt := 91) hx hb dX10_most_1 (by decide) (by decide) (by decide) (by decide) ?_
    refine lv_aload_n hx hb dX10_most_91 rfl (lv_at hl 0 rfl) ?_
    refine va_get (D := (dC, dI)) (ci := 10) (v := .ref xBag) (C := RX10) (T := TX10) (N := 13) hx hb hts hiX10 hown hK hP 0 rfl rfl 2 (by decide) (hts (.fieldLink RX10 28 "ScissorsTable" "bag" "LScissorsTable$Bag;") (by decide +kernel)) (fun _ h9 => h9) rfl dX10_most_92 ?_
    have hPc := hP.sub (ws' := [(xBag, .inr (1, [.ref bC, .ref bS, .ref bX, .ref bW, .ref bP, .int 0]))]) [1] rfl
    have hDc := hD.sub (ws' := [(xBag, .inr (1, [.ref bC, .ref bS, .ref bX, .ref bW, .ref bP, .int 0]))]) [1] (by decide) rfl
    have hFc := va_free (wc := [(xBag, .inr (1, [.ref bC, .ref bS, .ref bX, .ref bW, .ref bP, .int 0]))]) hD hS hA [1] rfl
    refine va_calli (va_runV (As := []) (rest := []) ⟨hx, hb, hml, hown, hts⟩ (c_X1_greatestSix l dC dI cB cI cJ s.heap.size xBag bC bS bX bW bP) (cwV 0 hts gX10_most_X1_greatestSix rfl rfl rfl (by decide +kernel) ⟨Nat.le_of_ble_eq_true rfl, Nat.le_of_ble_eq_true rfl⟩) ⟨fun a U g mk q => by obtain ⟨q0, q1, qP, qK, qD⟩ := q; exact ⟨q0, q1, qP, va_K.moved (u := U) (U := U.calling g mk a) (Vm.Alike.refl U.vm) qK, qD⟩, va_recv hK hP (ci := 1) (q0 := 1) rfl rfl, fun U hU hW => ⟨rfl, by rw [hU], by rw [hU]; exact hPc, va_K.moved hW.alike hK, hDc.weaken (fun _ _ _ _ => trivial)⟩⟩ rfl rfl hl.1 rfl (lv_room (Nat.le_of_ble_eq_true rfl)) dX10_most_95 ⟨Nat.le_of_ble_eq_true rfl, Nat.le_of_ble_eq_true rfl⟩) hS (fun q _ h => hFc q h) hFc (fun r_10 u t H1 locs ht hvm hw hB hz1 hk1 hS => ?_)
    have hP1 : va_P (dC, dI) vwCl [] H1 := fun k q h => by simp at h
    have hD1 : va_D (va_A [(xBag, .inr (1, [.ref bC, .ref bS, .ref bX, .ref bW, .ref bP, .int 0]))] s.heap.size) [] := ⟨fun i j p q h => by simp at h, fun k q h => by simp at h⟩
    obtain ⟨hP, hD⟩ := va_join (wr := [(x0, .inr (10, [.ref xTape, .ref xReader, .ref xBag, .ref xBld, .ref xAng, .ref xSum, .ref xPik, .int 0, .ref xHan, .ref xIns, .ref xShr, .ref xSta, .ref xTur])), (xSum, .inr (8, [.ref sM, .ref sP, .ref sA, .int 0]))]) (w1 := []) hP hD [1] [0, 2] rfl rfl (by decide) (by decide) hk1 hFc hP1 hD1
    generalize H1 = H at hP hS ⊢
    have hP : va_P (dC, dI) vwCl [(x0, .inr (10, [.ref xTape, .ref xReader, .ref xBag, .ref xBld, .ref xAng, .ref xSum, .ref xPik, .int 0, .ref xHan, .ref xIns, .ref xShr, .ref xSta, .ref xTur])), (xSum, .inr (8, [.ref sM, .ref sP, .ref sA, .int 0]))] H := hP
    have hD : va_D A [(x0, .inr (10, [.ref xTape, .ref xReader, .ref xBag, .ref xBld, .ref xAng, .ref xSum, .ref xPik, .int 0, .ref xHan, .ref xIns, .ref xShr, .ref xSta, .ref xTur])), (xSum, .inr (8, [.ref sM, .ref sP, .ref sA, .int 0]))] := hD
    have hr_10 := hw
    obtain rfl : r_10 = 0 := hr_10
    refine W.widen (k := 0) (n := 0) (Nat.le_of_ble_eq_true rfl) (Nat.le_of_ble_eq_true rfl) ?_
    exact W.iret (v := 0) hx hb hr (fun t ht hW => ⟨⟨0, (), rfl, (by (try simp only [nk_lt, nk_le, nk_eq, nk_wd, nk_c0, nk_c1, nk_c2, nk_c3, nk_c4, nk_c5, nk_c6, nk_c15, nk_c16, nk_c24, nk_c47, nk_c48, nk_c600, nk_c1728, nk_m1, nk_l0, nk_l1, nk_l2, nk_l3, nk_l5, nk_l15, nk_l24, nk_l47] at s_1 s_3 s_5); (unfold sp_most; first | rfl | decide | (rw [if_pos (by first | omega | (simp only [nk_lt, nk_le, nk_eq, nk_wd, nk_c0, nk_c1, nk_c2, nk_c3, nk_c4, nk_c5, nk_c6, nk_c15, nk_c16, nk_c24, nk_c47, nk_c48, nk_c600, nk_c1728, nk_m1, nk_l0, nk_l1, nk_l2, nk_l3, nk_l5, nk_l15, nk_l24, nk_l47]; omega) | (simp only [nk_lt, nk_le, nk_eq, nk_wd, nk_c0, nk_c1, nk_c2, nk_c3, nk_c4, nk_c5, nk_c6, nk_c15, nk_c16, nk_c24, nk_c47, nk_c48, nk_c600, nk_c1728, nk_m1, nk_l0, nk_l1, nk_l2, nk_l3, nk_l5, nk_l15, nk_l24, nk_l47]; done))]) | (rw [if_neg (by first | omega | (simp only [nk_lt, nk_le, nk_eq, nk_wd, nk_c0, nk_c1, nk_c2, nk_c3, nk_c4, nk_c5, nk_c6, nk_c15, nk_c16, nk_c24, nk_c47, nk_c48, nk_c600, nk_c1728, nk_m1, nk_l0, nk_l1, nk_l2, nk_l3, nk_l5, nk_l15, nk_l24, nk_l47]; omega) | (simp only [nk_lt, nk_le, nk_eq, nk_wd, nk_c0, nk_c1, nk_c2, nk_c3, nk_c4, nk_c5, nk_c6, nk_c15, nk_c16, nk_c24, nk_c47, nk_c48, nk_c600, nk_c1728, nk_m1, nk_l0, nk_l1, nk_l2, nk_l3, nk_l5, nk_l15, nk_l24, nk_l47]; done))]))), trivial⟩, hS.F ht⟩) hS.2.2 dX10_most_98
  by_cases s_11 : p0 = 4
  · subst s_11
    refine lv_tableIn (off := 98) (tgt := 99) hx hb dX10_most_1 (by decide) (by decide) (by decide) (by decide) ?_
    refine lv_aload_n hx hb dX10_most_99 rfl (lv_at hl 0 rfl) ?_
    have hPc := hP.sub (ws' := [(x0, .inr (10, [.ref xTape, .ref xReader, .ref xBag, .ref xBld, .ref xAng, .ref xSum, .ref xPik, .int 0, .ref xHan, .ref xIns, .ref xShr, .ref xSta, .ref xTur])), (xBag, .inr (1, [.ref bC, .ref bS, .ref bX, .ref bW, .ref bP, .int 0]))]) [0, 1] rfl
    have hDc := hD.sub (ws' := [(x0, .inr (10, [.ref xTape, .ref xReader, .ref xBag, .ref xBld, .ref xAng, .ref xSum, .ref xPik, .int 0, .ref xHan, .ref xIns, .ref xShr, .ref xSta, .ref xTur])), (xBag, .inr (1, [.ref bC, .ref bS, .ref bX, .ref bW, .ref bP, .int 0]))]) [0, 1] (by decide) rfl
    have hFc := va_free (wc := [(x0, .inr (10, [.ref xTape, .ref xReader, .ref xBag, .ref xBld, .ref xAng, .ref xSum, .ref xPik, .int 0, .ref xHan, .ref xIns, .ref xShr, .ref xSta, .ref xTur])), (xBag, .inr (1, [.ref bC, .ref bS, .ref bX, .ref bW, .ref bP, .int 0]))]) hD hS hA [0, 1] rfl
    refine va_calli (va_runV (As := []) (rest := []) ⟨hx, hb, hml, hown, hts⟩ (c_X10_tetsWithPoints l dC dI cB cI cJ s.heap.size x0 xTape xReader xBag xBld xAng xSum xPik xHan xIns xShr xSta xTur bC bS bX bW bP) (cwV 0 hts gX10_most_X10_tetsWithPoints rfl rfl rfl (by decide +kernel) ⟨Nat.le_of_ble_eq_true rfl, Nat.le_of_ble_eq_true rfl⟩) ⟨fun a U g mk q => by obtain ⟨q0, q1, qP, qK, qD⟩ := q; exact ⟨q0, q1, qP, va_K.moved (u := U) (U := U.calling g mk a) (Vm.Alike.refl U.vm) qK, qD⟩, va_recv hK hP (ci := 10) (q0 := 0) rfl rfl, fun U hU hW => ⟨rfl, by rw [hU], by rw [hU]; exact hPc, va_K.moved hW.alike hK, hDc.weaken (fun _ _ _ _ => trivial)⟩⟩ rfl rfl hl.1 rfl (lv_room (Nat.le_of_ble_eq_true rfl)) dX10_most_100 ⟨Nat.le_of_ble_eq_true rfl, Nat.le_of_ble_eq_true rfl⟩) hS (fun q _ h => hFc q h) hFc (fun r_12 u t H1 locs ht hvm hw hB hz1 hk1 hS => ?_)
    have hP1 : va_P (dC, dI) vwCl [] H1 := fun k q h => by simp at h
    have hD1 : va_D (va_A [(x0, .inr (10, [.ref xTape, .ref xReader, .ref xBag, .ref xBld, .ref xAng, .ref xSum, .ref xPik, .int 0, .ref xHan, .ref xIns, .ref xShr, .ref xSta, .ref xTur])), (xBag, .inr (1, [.ref bC, .ref bS, .ref bX, .ref bW, .ref bP, .int 0]))] s.heap.size) [] := ⟨fun i j p q h => by simp at h, fun k q h => by simp at h⟩
    obtain ⟨hP, hD⟩ := va_join (wr := [(xSum, .inr (8, [.ref sM, .ref sP, .ref sA, .int 0]))]) (w1 := []) hP hD [0, 1] [2] rfl rfl (by decide) (by decide) hk1 hFc hP1 hD1
    generalize H1 = H at hP hS ⊢
    have hP : va_P (dC, dI) vwCl [(xSum, .inr (8, [.ref sM, .ref sP, .ref sA, .int 0]))] H := hP
    have hD : va_D A [(xSum, .inr (8, [.ref sM, .ref sP, .ref sA, .int 0]))] := hD
    have hr_12 := hw
    obtain rfl : r_12 = 0 := hr_12
    refine W.widen (k := 0) (n := 0) (Nat.le_of_ble_eq_true rfl) (Nat.le_of_ble_eq_true rfl) ?_
    exact W.iret (v := 0) hx hb hr (fun t ht hW => ⟨⟨0, (), rfl, (by (try simp only [nk_lt, nk_le, nk_eq, nk_wd, nk_c0, nk_c1, nk_c2, nk_c3, nk_c4, nk_c5, nk_c6, nk_c15, nk_c16, nk_c24, nk_c47, nk_c48, nk_c600, nk_c1728, nk_m1, nk_l0, nk_l1, nk_l2, nk_l3, nk_l5, nk_l15, nk_l24, nk_l47] at s_1 s_3 s_5 s_9); (unfold sp_most; first | rfl | decide | (rw [if_pos (by first | omega | (simp only [nk_lt, nk_le, nk_eq, nk_wd, nk_c0, nk_c1, nk_c2, nk_c3, nk_c4, nk_c5, nk_c6, nk_c15, nk_c16, nk_c24, nk_c47, nk_c48, nk_c600, nk_c1728, nk_m1, nk_l0, nk_l1, nk_l2, nk_l3, nk_l5, nk_l15, nk_l24, nk_l47]; omega) | (simp only [nk_lt, nk_le, nk_eq, nk_wd, nk_c0, nk_c1, nk_c2, nk_c3, nk_c4, nk_c5, nk_c6, nk_c15, nk_c16, nk_c24, nk_c47, nk_c48, nk_c600, nk_c1728, nk_m1, nk_l0, nk_l1, nk_l2, nk_l3, nk_l5, nk_l15, nk_l24, nk_l47]; done))]) | (rw [if_neg (by first | omega | (simp only [nk_lt, nk_le, nk_eq, nk_wd, nk_c0, nk_c1, nk_c2, nk_c3, nk_c4, nk_c5, nk_c6, nk_c15, nk_c16, nk_c24, nk_c47, nk_c48, nk_c600, nk_c1728, nk_m1, nk_l0, nk_l1, nk_l2, nk_l3, nk_l5, nk_l15, nk_l24, nk_l47]; omega) | (simp only [nk_lt, nk_le, nk_eq, nk_wd, nk_c0, nk_c1, nk_c2, nk_c3, nk_c4, nk_c5, nk_c6, nk_c15, nk_c16, nk_c24, nk_c47, nk_c48, nk_c600, nk_c1728, nk_m1, nk_l0, nk_l1, nk_l2, nk_l3, nk_l5, nk_l15, nk_l24, nk_l47]; done))]))), trivial⟩, hS.F ht⟩) hS.2.2 dX10_most_103
  by_cases s_13 : p0 = 5
  · subst s_13
    refine lv_tableIn (off := 103) (tgt := 104) hx hb dX10_most_1 (by decide) (by decide) (by decide) (by decide) ?_
    refine lv_aload_n hx hb dX10_most_104 rfl (lv_at hl 0 rfl) ?_
    have hPc := hP.sub (ws' := [(x0, .inr (10, [.ref xTape, .ref xReader, .ref xBag, .ref xBld, .ref xAng, .ref xSum, .ref xPik, .int 0, .ref xHan, .ref xIns, .ref xShr, .ref xSta, .ref xTur])), (xSum, .inr (8, [.ref sM, .ref sP, .ref sA, .int 0]))]) [0, 2] rfl
    have hDc := hD.sub (ws' := [(x0, .inr (10, [.ref xTape, .ref xReader, .ref xBag, .ref xBld, .ref xAng, .ref xSum, .ref xPik, .int 0, .ref xHan, .ref xIns, .ref xShr, .ref xSta, .ref xTur])), (xSum, .inr (8, [.ref sM, .ref sP, .ref sA, .int 0]))]) [0, 2] (by decide) rfl
    have hFc := va_free (wc := [(x0, .inr (10, [.ref xTape, .ref xReader, .ref xBag, .ref xBld, .ref xAng, .ref xSum, .ref xPik, .int 0, .ref xHan, .ref xIns, .ref xShr, .ref xSta, .ref xTur])), (xSum, .inr (8, [.ref sM, .ref sP, .ref sA, .int 0]))]) hD hS hA [0, 2] rfl
    refine va_calli (va_runV (As := []) (rest := []) ⟨hx, hb, hml, hown, hts⟩ (c_X10_solidsWithoutSum l dC dI cB cI cJ s.heap.size x0 xTape xReader xBag xBld xAng xSum xPik xHan xIns xShr xSta xTur sM sP sA) (cwV 0 hts gX10_most_X10_solidsWithoutSum rfl rfl rfl (by decide +kernel) ⟨Nat.le_of_ble_eq_true rfl, Nat.le_of_ble_eq_true rfl⟩) ⟨fun a U g mk q => by obtain ⟨q0, q1, qP, qK, qD⟩ := q; exact ⟨q0, q1, qP, va_K.moved (u := U) (U := U.calling g mk a) (Vm.Alike.refl U.vm) qK, qD⟩, va_recv hK hP (ci := 10) (q0 := 0) rfl rfl, fun U hU hW => ⟨rfl, by rw [hU], by rw [hU]; exact hPc, va_K.moved hW.alike hK, hDc.weaken (fun _ _ _ _ => trivial)⟩⟩ rfl rfl hl.1 rfl (lv_room (Nat.le_of_ble_eq_true rfl)) dX10_most_105 ⟨Nat.le_of_ble_eq_true rfl, Nat.le_of_ble_eq_true rfl⟩) hS (fun q _ h => hFc q h) hFc (fun r_14 u t H1 locs ht hvm hw hB hz1 hk1 hS => ?_)
    have hP1 : va_P (dC, dI) vwCl [] H1 := fun k q h => by simp at h
    have hD1 : va_D (va_A [(x0, .inr (10, [.ref xTape, .ref xReader, .ref xBag, .ref xBld, .ref xAng, .ref xSum, .ref xPik, .int 0, .ref xHan, .ref xIns, .ref xShr, .ref xSta, .ref xTur])), (xSum, .inr (8, [.ref sM, .ref sP, .ref sA, .int 0]))] s.heap.size) [] := ⟨fun i j p q h => by simp at h, fun k q h => by simp at h⟩
    obtain ⟨hP, hD⟩ := va_join (wr := [(xBag, .inr (1, [.ref bC, .ref bS, .ref bX, .ref bW, .ref bP, .int 0]))]) (w1 := []) hP hD [0, 2] [1] rfl rfl (by decide) (by decide) hk1 hFc hP1 hD1
    generalize H1 = H at hP hS ⊢
    have hP : va_P (dC, dI) vwCl [(xBag, .inr (1, [.ref bC, .ref bS, .ref bX, .ref bW, .ref bP, .int 0]))] H := hP
    have hD : va_D A [(xBag, .inr (1, [.ref bC, .ref bS, .ref bX, .ref bW, .ref bP, .int 0]))] := hD
    have hr_14 := hw
    obtain rfl : r_14 = 15 := hr_14
    refine W.widen (k := 0) (n := 0) (Nat.le_of_ble_eq_true rfl) (Nat.le_of_ble_eq_true rfl) ?_
    exact W.iret (v := 15) hx hb hr (fun t ht hW => ⟨⟨15, (), rfl, (by (try simp only [nk_lt, nk_le, nk_eq, nk_wd, nk_c0, nk_c1, nk_c2, nk_c3, nk_c4, nk_c5, nk_c6, nk_c15, nk_c16, nk_c24, nk_c47, nk_c48, nk_c600, nk_c1728, nk_m1, nk_l0, nk_l1, nk_l2, nk_l3, nk_l5, nk_l15, nk_l24, nk_l47] at s_1 s_3 s_5 s_9 s_11); (unfold sp_most; first | rfl | decide | (rw [if_pos (by first | omega | (simp only [nk_lt, nk_le, nk_eq, nk_wd, nk_c0, nk_c1, nk_c2, nk_c3, nk_c4, nk_c5, nk_c6, nk_c15, nk_c16, nk_c24, nk_c47, nk_c48, nk_c600, nk_c1728, nk_m1, nk_l0, nk_l1, nk_l2, nk_l3, nk_l5, nk_l15, nk_l24, nk_l47]; omega) | (simp only [nk_lt, nk_le, nk_eq, nk_wd, nk_c0, nk_c1, nk_c2, nk_c3, nk_c4, nk_c5, nk_c6, nk_c15, nk_c16, nk_c24, nk_c47, nk_c48, nk_c600, nk_c1728, nk_m1, nk_l0, nk_l1, nk_l2, nk_l3, nk_l5, nk_l15, nk_l24, nk_l47]; done))]) | (rw [if_neg (by first | omega | (simp only [nk_lt, nk_le, nk_eq, nk_wd, nk_c0, nk_c1, nk_c2, nk_c3, nk_c4, nk_c5, nk_c6, nk_c15, nk_c16, nk_c24, nk_c47, nk_c48, nk_c600, nk_c1728, nk_m1, nk_l0, nk_l1, nk_l2, nk_l3, nk_l5, nk_l15, nk_l24, nk_l47]; omega) | (simp only [nk_lt, nk_le, nk_eq, nk_wd, nk_c0, nk_c1, nk_c2, nk_c3, nk_c4, nk_c5, nk_c6, nk_c15, nk_c16, nk_c24, nk_c47, nk_c48, nk_c600, nk_c1728, nk_m1, nk_l0, nk_l1, nk_l2, nk_l3, nk_l5, nk_l15, nk_l24, nk_l47]; done))]))), trivial⟩, hS.F ht⟩) hS.2.2 dX10_most_108
  by_cases s_15 : p0 = 6
  · subst s_15
    refine lv_tableIn (off := 108) (tgt := 109) hx hb dX10_most_1 (by decide) (by decide) (by decide) (by decide) ?_
    refine lv_aload_n hx hb dX10_most_109 rfl (lv_at hl 0 rfl) ?_
    have hPc := hP.sub (ws' := [(x0, .inr (10, [.ref xTape, .ref xReader, .ref xBag, .ref xBld, .ref xAng, .ref xSum, .ref xPik, .int 0, .ref xHan, .ref xIns, .ref xShr, .ref xSta, .ref xTur])), (xBag, .inr (1, [.ref bC, .ref bS, .ref bX, .ref bW, .ref bP, .int 0]))]) [0, 1] rfl
    have hDc := hD.sub (ws' := [(x0, .inr (10, [.ref xTape, .ref xReader, .ref xBag, .ref xBld, .ref xAng, .ref xSum, .ref xPik, .int 0, .ref xHan, .ref xIns, .ref xShr, .ref xSta, .ref xTur])), (xBag, .inr (1, [.ref bC, .ref bS, .ref bX, .ref bW, .ref bP, .int 0]))]) [0, 1] (by decide) rfl
    have hFc := va_free (wc := [(x0, .inr (10, [.ref xTape, .ref xReader, .ref xBag, .ref xBld, .ref xAng, .ref xSum, .ref xPik, .int 0, .ref xHan, .ref xIns, .ref xShr, .ref xSta, .ref xTur])), (xBag, .inr (1, [.ref bC, .ref bS, .ref bX, .ref bW, .ref bP, .int 0]))]) hD hS hA [0, 1] rfl
    refine va_calli (va_runV (As := []) (rest := []) ⟨hx, hb, hml, hown, hts⟩ (c_X10_alikeCouples l dC dI cB cI cJ s.heap.size x0 xTape xReader xBag xBld xAng xSum xPik xHan xIns xShr xSta xTur bC bS bX bW bP) (cwV 0 hts gX10_most_X10_alikeCouples rfl rfl rfl (by decide +kernel) ⟨Nat.le_of_ble_eq_true rfl, Nat.le_of_ble_eq_true rfl⟩) ⟨fun a U g mk q => by obtain ⟨q0, q1, qP, qK, qD⟩ := q; exact ⟨q0, q1, qP, va_K.moved (u := U) (U := U.calling g mk a) (Vm.Alike.refl U.vm) qK, qD⟩, va_recv hK hP (ci := 10) (q0 := 0) rfl rfl, fun U hU hW => ⟨rfl, by rw [hU], by rw [hU]; exact hPc, va_K.moved hW.alike hK, hDc.weaken (fun _ _ _ _ => trivial)⟩⟩ rfl rfl hl.1 rfl (lv_room (Nat.le_of_ble_eq_true rfl)) dX10_most_110 ⟨Nat.le_of_ble_eq_true rfl, Nat.le_of_ble_eq_true rfl⟩) hS (fun q _ h => hFc q h) hFc (fun r_16 u t H1 locs ht hvm hw hB hz1 hk1 hS => ?_)
    have hP1 : va_P (dC, dI) vwCl [] H1 := fun k q h => by simp at h
    have hD1 : va_D (va_A [(x0, .inr (10, [.ref xTape, .ref xReader, .ref xBag, .ref xBld, .ref xAng, .ref xSum, .ref xPik, .int 0, .ref xHan, .ref xIns, .ref xShr, .ref xSta, .ref xTur])), (xBag, .inr (1, [.ref bC, .ref bS, .ref bX, .ref bW, .ref bP, .int 0]))] s.heap.size) [] := ⟨fun i j p q h => by simp at h, fun k q h => by simp at h⟩
    obtain ⟨hP, hD⟩ := va_join (wr := [(xSum, .inr (8, [.ref sM, .ref sP, .ref sA, .int 0]))]) (w1 := []) hP hD [0, 1] [2] rfl rfl (by decide) (by decide) hk1 hFc hP1 hD1
    generalize H1 = H at hP hS ⊢
    have hP : va_P (dC, dI) vwCl [(xSum, .inr (8, [.ref sM, .ref sP, .ref sA, .int 0]))] H := hP
    have hD : va_D A [(xSum, .inr (8, [.ref sM, .ref sP, .ref sA, .int 0]))] := hD
    have hr_16 := hw
    obtain rfl : r_16 = 0 := hr_16
    refine W.widen (k := 0) (n := 0) (Nat.le_of_ble_eq_true rfl) (Nat.le_of_ble_eq_true rfl) ?_
    exact W.iret (v := 0) hx hb hr (fun t ht hW => ⟨⟨0, (), rfl, (by (try simp only [nk_lt, nk_le, nk_eq, nk_wd, nk_c0, nk_c1, nk_c2, nk_c3, nk_c4, nk_c5, nk_c6, nk_c15, nk_c16, nk_c24, nk_c47, nk_c48, nk_c600, nk_c1728, nk_m1, nk_l0, nk_l1, nk_l2, nk_l3, nk_l5, nk_l15, nk_l24, nk_l47] at s_1 s_3 s_5 s_9 s_11 s_13); (unfold sp_most; first | rfl | decide | (rw [if_pos (by first | omega | (simp only [nk_lt, nk_le, nk_eq, nk_wd, nk_c0, nk_c1, nk_c2, nk_c3, nk_c4, nk_c5, nk_c6, nk_c15, nk_c16, nk_c24, nk_c47, nk_c48, nk_c600, nk_c1728, nk_m1, nk_l0, nk_l1, nk_l2, nk_l3, nk_l5, nk_l15, nk_l24, nk_l47]; omega) | (simp only [nk_lt, nk_le, nk_eq, nk_wd, nk_c0, nk_c1, nk_c2, nk_c3, nk_c4, nk_c5, nk_c6, nk_c15, nk_c16, nk_c24, nk_c47, nk_c48, nk_c600, nk_c1728, nk_m1, nk_l0, nk_l1, nk_l2, nk_l3, nk_l5, nk_l15, nk_l24, nk_l47]; done))]) | (rw [if_neg (by first | omega | (simp only [nk_lt, nk_le, nk_eq, nk_wd, nk_c0, nk_c1, nk_c2, nk_c3, nk_c4, nk_c5, nk_c6, nk_c15, nk_c16, nk_c24, nk_c47, nk_c48, nk_c600, nk_c1728, nk_m1, nk_l0, nk_l1, nk_l2, nk_l3, nk_l5, nk_l15, nk_l24, nk_l47]; omega) | (simp only [nk_lt, nk_le, nk_eq, nk_wd, nk_c0, nk_c1, nk_c2, nk_c3, nk_c4, nk_c5, nk_c6, nk_c15, nk_c16, nk_c24, nk_c47, nk_c48, nk_c600, nk_c1728, nk_m1, nk_l0, nk_l1, nk_l2, nk_l3, nk_l5, nk_l15, nk_l24, nk_l47]; done))]))), trivial⟩, hS.F ht⟩) hS.2.2 dX10_most_113
  refine lv_tableOut (tgt := 114) hx hb dX10_most_1 (nk_sw p0 7 (by decide) (fun j hj => match j, hj with | 0, _ => fun e => s_1 (e.trans (by decide)) | 1, _ => fun e => s_3 (e.trans (by decide)) | 2, _ => fun e => s_5 (e.trans (by decide)) | 3, _ => fun e => s_9 (e.trans (by decide)) | 4, _ => fun e => s_11 (e.trans (by decide)) | 5, _ => fun e => s_13 (e.trans (by decide)) | 6, _ => fun e => s_15 (e.trans (by decide)) | k + 7, h => absurd h (by omega))) (by decide) ?_
  refine lv_ldc (v := (-1000000)) hx hb hown (hts (.constant RX10 140 (-1000000)) (by decide +kernel)) dX10_most_114 ?_
  refine W.widen (k := 0) (n := 0) (Nat.le_of_ble_eq_true rfl) (Nat.le_of_ble_eq_true rfl) ?_
  exact W.iret (v := (-1000000)) hx hb hr (fun t ht hW => ⟨⟨(-1000000), (), rfl, (by (try simp only [nk_lt, nk_le, nk_eq, nk_wd, nk_c0, nk_c1, nk_c2, nk_c3, nk_c4, nk_c5, nk_c6, nk_c15, nk_c16, nk_c24, nk_c47, nk_c48, nk_c600, nk_c1728, nk_m1, nk_l0, nk_l1, nk_l2, nk_l3, nk_l5, nk_l15, nk_l24, nk_l47] at s_1 s_3 s_5 s_9 s_11 s_13 s_15); (unfold sp_most; first | rfl | decide | (rw [if_pos (by first | omega | (simp only [nk_lt, nk_le, nk_eq, nk_wd, nk_c0, nk_c1, nk_c2, nk_c3, nk_c4, nk_c5, nk_c6, nk_c15, nk_c16, nk_c24, nk_c47, nk_c48, nk_c600, nk_c1728, nk_m1, nk_l0, nk_l1, nk_l2, nk_l3, nk_l5, nk_l15, nk_l24, nk_l47]; omega) | (simp only [nk_lt, nk_le, nk_eq, nk_wd, nk_c0, nk_c1, nk_c2, nk_c3, nk_c4, nk_c5, nk_c6, nk_c15, nk_c16, nk_c24, nk_c47, nk_c48, nk_c600, nk_c1728, nk_m1, nk_l0, nk_l1, nk_l2, nk_l3, nk_l5, nk_l15, nk_l24, nk_l47]; done))]) | (rw [if_neg (by first | omega | (simp only [nk_lt, nk_le, nk_eq, nk_wd, nk_c0, nk_c1, nk_c2, nk_c3, nk_c4, nk_c5, nk_c6, nk_c15, nk_c16, nk_c24, nk_c47, nk_c48, nk_c600, nk_c1728, nk_m1, nk_l0, nk_l1, nk_l2, nk_l3, nk_l5, nk_l15, nk_l24, nk_l47]; omega) | (simp only [nk_lt, nk_le, nk_eq, nk_wd, nk_c0, nk_c1, nk_c2, nk_c3, nk_c4, nk_c5, nk_c6, nk_c15, nk_c16, nk_c24, nk_c47, nk_c48, nk_c600, nk_c1728, nk_m1, nk_l0, nk_l1, nk_l2, nk_l3, nk_l5, nk_l15, nk_l24, nk_l47]; done))]))), trivial⟩, hS.F ht⟩) hS.2.2 dX10_most_116
set_option maxHeartbeats 4000000 in
set_option maxRecDepth 100000 in
theorem c_X10_count (l : Launch) (dC : Nat → ClassId) (dI : Nat → Nat → Nat) (cB cI cJ : ClassId) (sz : Nat) (x0 xTape xReader xBag xBld xAng xSum xPik xHan xIns xShr xSta xTur tB bC bS bX bW bP fL fS fP fT fA fQ fR fN : Nat) (p0 : Int32) : Met l yX10_count wsX10_count ({ frames := 1, cells := 0, slots := 0, locals := 24 }) (va_Pc [.ref x0, .int p0] (fun U => U.heap.size = sz ∧ va_P (dC, dI) vwCl [(x0, .inr (10, [.ref xTape, .ref xReader, .ref xBag, .ref xBld, .ref xAng, .ref xSum, .ref xPik, .int 0, .ref xHan, .ref xIns, .ref xShr, .ref xSta, .ref xTur])), (xTape, .inr (9, [.ref tB, .int 0])), (xBag, .inr (1, [.ref bC, .ref bS, .ref bX, .ref bW, .ref bP, .int 0])), (xSta, .inr (7, [.int (-1), .ref fL, .ref fS, .ref fP, .ref fT, .ref fA, .ref fQ, .ref fR, .int 0, .ref fN]))] U.heap ∧ va_K (dC, dI) vwCl [(cB, .byte), (cI, .int), (cJ, .long)] U ∧ va_D (fun _ => True) [(x0, .inr (10, [.ref xTape, .ref xReader, .ref xBag, .ref xBld, .ref xAng, .ref xSum, .ref xPik, .int 0, .ref xHan, .ref xIns, .ref xShr, .ref xSta, .ref xTur])), (xTape, .inr (9, [.ref tB, .int 0])), (xBag, .inr (1, [.ref bC, .ref bS, .ref bX, .ref bW, .ref bP, .int 0])), (xSta, .inr (7, [.int (-1), .ref fL, .ref fS, .ref fP, .ref fT, .ref fA, .ref fQ, .ref fR, .int 0, .ref fN]))])) (va_Qi (fun (r : Int32) (_ : Unit) => r = sp_count p0) (fun _ _ => True) (va_A [(x0, .inr (10, [.ref xTape, .ref xReader, .ref xBag, .ref xBld, .ref xAng, .ref xSum, .ref xPik, .int 0, .ref xHan, .ref xIns, .ref xShr, .ref xSta, .ref xTur])), (xTape, .inr (9, [.ref tB, .int 0])), (xBag, .inr (1, [.ref bC, .ref bS, .ref bX, .ref bW, .ref bP, .int 0])), (xSta, .inr (7, [.int (-1), .ref fL, .ref fS, .ref fP, .ref fT, .ref fA, .ref fQ, .ref fR, .int 0, .ref fN]))] sz)) 0 0 (va_A [(x0, .inr (10, [.ref xTape, .ref xReader, .ref xBag, .ref xBld, .ref xAng, .ref xSum, .ref xPik, .int 0, .ref xHan, .ref xIns, .ref xShr, .ref xSta, .ref xTur])), (xTape, .inr (9, [.ref tB, .int 0])), (xBag, .inr (1, [.ref bC, .ref bS, .ref bX, .ref bW, .ref bP, .int 0])), (xSta, .inr (7, [.int (-1), .ref fL, .ref fS, .ref fP, .ref fT, .ref fA, .ref fQ, .ref fR, .int 0, .ref fN]))] sz) := by
  refine Met.ofW (cc := cX10_count) (maxL := 2) (ret := (some .int)) (by decide) rfl ?_
  intro p e s m args below meth c s₁ B hml hv
  obtain ⟨rfl, hsz, hP, hK, hD0⟩ := hv
  have hx := B.exec
  have hb := B.bytes
  have hr := B.returns
  have hts := atoms_spec (ws := wsX10_count) B.pre
  have hown : s.vm.findClass RX10 = some m.cls := findClass_of_methodNamed B.named
  have hlocks := B.notSynchronized
  have hiX1 : ∀ w ∈ u_ws RX1 TX1 6, w ∈ wsX10_count := by decide +kernel
  have hiX10 : ∀ w ∈ u_ws RX10 TX10 13, w ∈ wsX10_count := by decide +kernel
  have hiX7 : ∀ w ∈ u_ws RX7 TX7 10, w ∈ wsX10_count := by decide +kernel
  have hiX9 : ∀ w ∈ u_ws RX9 TX9 2, w ∈ wsX10_count := by decide +kernel
  subst hsz
  have hD := hD0.self (sz := s.heap.size)
  generalize hAe : va_A [(x0, .inr (10, [.ref xTape, .ref xReader, .ref xBag, .ref xBld, .ref xAng, .ref xSum, .ref xPik, .int 0, .ref xHan, .ref xIns, .ref xShr, .ref xSta, .ref xTur])), (xTape, .inr (9, [.ref tB, .int 0])), (xBag, .inr (1, [.ref bC, .ref bS, .ref bX, .ref bW, .ref bP, .int 0])), (xSta, .inr (7, [.int (-1), .ref fL, .ref fS, .ref fP, .ref fT, .ref fA, .ref fQ, .ref fR, .int 0, .ref fN]))] s.heap.size = A at hD ⊢
  have hA : ∀ q : Nat, s.heap.size ≤ q → A q := fun q h => by rw [← hAe]; exact Or.inr h
  have hS : va_S A s.heap s.heap [] := va_S.rf
  have hP : va_P (dC, dI) vwCl [(x0, .inr (10, [.ref xTape, .ref xReader, .ref xBag, .ref xBld, .ref xAng, .ref xSum, .ref xPik, .int 0, .ref xHan, .ref xIns, .ref xShr, .ref xSta, .ref xTur])), (xTape, .inr (9, [.ref tB, .int 0])), (xBag, .inr (1, [.ref bC, .ref bS, .ref bX, .ref bW, .ref bP, .int 0])), (xSta, .inr (7, [.int (-1), .ref fL, .ref fS, .ref fP, .ref fT, .ref fA, .ref fQ, .ref fR, .int 0, .ref fN]))] s.heap := hP
  have hl := lv_entry ([.ref x0, .int p0]) (n := 2) (Nat.le_of_ble_eq_true rfl)
  rw [lg_entry_eq]
  generalize (lg_sl ([.ref x0, .int p0]) ++ List.replicate (2 - (lg_sl ([.ref x0, .int p0])).length) Slot.unset).toArray = ls at hl ⊢
  have hl : lv_has ls 2 [(0, .ref x0), (1, .int p0)] := hl
  refine lv_iload_n hx hb dX10_count_0 rfl (lv_at hl 1 rfl) ?_
  by_cases s_1 : p0 = 0
  · subst s_1
    refine lv_tableIn (off := 31) (tgt := 32) hx hb dX10_count_1 (by decide) (by decide) (by decide) (by decide) ?_
    refine lv_aload_n hx hb dX10_count_32 rfl (lv_at hl 0 rfl) ?_
    refine va_get (D := (dC, dI)) (ci := 10) (v := .ref xBag) (C := RX10) (T := TX10) (N := 13) hx hb hts hiX10 hown hK hP 0 rfl rfl 2 (by decide) (hts (.fieldLink RX10 28 "ScissorsTable" "bag" "LScissorsTable$Bag;") (by decide +kernel)) (fun _ h9 => h9) rfl dX10_count_33 ?_
    refine va_get (D := (dC, dI)) (ci := 1) (v := .int 0) (C := RX1) (T := TX1) (N := 6) hx hb hts hiX1 hown hK hP 2 rfl rfl 5 (by decide) (hts (.fieldLink RX10 108 "ScissorsTable$Bag" "size" "I") (by decide +kernel)) (fun _ h9 => h9) rfl dX10_count_36 ?_
    refine W.widen (k := 0) (n := 0) (Nat.le_of_ble_eq_true rfl) (Nat.le_of_ble_eq_true rfl) ?_
    exact W.iret (v := 0) hx hb hr (fun t ht hW => ⟨⟨0, (), rfl, (by (unfold sp_count; first | rfl | decide | (rw [if_pos (by first | omega | (simp only [nk_lt, nk_le, nk_eq, nk_wd, nk_c0, nk_c1, nk_c2, nk_c3, nk_c4, nk_c5, nk_c6, nk_c15, nk_c16, nk_c24, nk_c47, nk_c48, nk_c600, nk_c1728, nk_m1, nk_l0, nk_l1, nk_l2, nk_l3, nk_l5, nk_l15, nk_l24, nk_l47]; omega) | (simp only [nk_lt, nk_le, nk_eq, nk_wd, nk_c0, nk_c1, nk_c2, nk_c3, nk_c4, nk_c5, nk_c6, nk_c15, nk_c16, nk_c24, nk_c47, nk_c48, nk_c600, nk_c1728, nk_m1, nk_l0, nk_l1, nk_l2, nk_l3, nk_l5, nk_l15, nk_l24, nk_l47]; done))]) | (rw [if_neg (by first | omega | (simp only [nk_lt, nk_le, nk_eq, nk_wd, nk_c0, nk_c1, nk_c2, nk_c3, nk_c4, nk_c5, nk_c6, nk_c15, nk_c16, nk_c24, nk_c47, nk_c48, nk_c600, nk_c1728, nk_m1, nk_l0, nk_l1, nk_l2, nk_l3, nk_l5, nk_l15, nk_l24, nk_l47]; omega) | (simp only [nk_lt, nk_le, nk_eq, nk_wd, nk_c0, nk_c1, nk_c2, nk_c3, nk_c4, nk_c5, nk_c6, nk_c15, nk_c16, nk_c24, nk_c47, nk_c48, nk_c600, nk_c1728, nk_m1, nk_l0, nk_l1, nk_l2, nk_l3, nk_l5, nk_l15, nk_l24, nk_l47]; done))]))), trivial⟩, hS.F ht⟩) hS.2.2 dX10_count_39
  by_cases s_2 : p0 = 1
  · subst s_2
    refine lv_tableIn (off := 39) (tgt := 40) hx hb dX10_count_1 (by decide) (by decide) (by decide) (by decide) ?_
    refine lv_aload_n hx hb dX10_count_40 rfl (lv_at hl 0 rfl) ?_
    refine va_get (D := (dC, dI)) (ci := 10) (v := .ref xTape) (C := RX10) (T := TX10) (N := 13) hx hb hts hiX10 hown hK hP 0 rfl rfl 0 (by decide) (hts (.fieldLink RX10 10 "ScissorsTable" "tape" "LScissorsTable$Tape;") (by decide +kernel)) (fun _ h9 => h9) rfl dX10_count_41 ?_
    refine va_get (D := (dC, dI)) (ci := 9) (v := .int 0) (C := RX9) (T := TX9) (N := 2) hx hb hts hiX9 hown hK hP 1 rfl rfl 1 (by decide) (hts (.fieldLink RX10 96 "ScissorsTable$Tape" "length" "I") (by decide +kernel)) (fun _ h9 => h9) rfl dX10_count_44 ?_
    refine W.widen (k := 0) (n := 0) (Nat.le_of_ble_eq_true rfl) (Nat.le_of_ble_eq_true rfl) ?_
    exact W.iret (v := 0) hx hb hr (fun t ht hW => ⟨⟨0, (), rfl, (by (try simp only [nk_lt, nk_le, nk_eq, nk_wd, nk_c0, nk_c1, nk_c2, nk_c3, nk_c4, nk_c5, nk_c6, nk_c15, nk_c16, nk_c24, nk_c47, nk_c48, nk_c600, nk_c1728, nk_m1, nk_l0, nk_l1, nk_l2, nk_l3, nk_l5, nk_l15, nk_l24, nk_l47] at s_1); (unfold sp_count; first | rfl | decide | (rw [if_pos (by first | omega | (simp only [nk_lt, nk_le, nk_eq, nk_wd, nk_c0, nk_c1, nk_c2, nk_c3, nk_c4, nk_c5, nk_c6, nk_c15, nk_c16, nk_c24, nk_c47, nk_c48, nk_c600, nk_c1728, nk_m1, nk_l0, nk_l1, nk_l2, nk_l3, nk_l5, nk_l15, nk_l24, nk_l47]; omega) | (simp only [nk_lt, nk_le, nk_eq, nk_wd, nk_c0, nk_c1, nk_c2, nk_c3, nk_c4, nk_c5, nk_c6, nk_c15, nk_c16, nk_c24, nk_c47, nk_c48, nk_c600, nk_c1728, nk_m1, nk_l0, nk_l1, nk_l2, nk_l3, nk_l5, nk_l15, nk_l24, nk_l47]; done))]) | (rw [if_neg (by first | omega | (simp only [nk_lt, nk_le, nk_eq, nk_wd, nk_c0, nk_c1, nk_c2, nk_c3, nk_c4, nk_c5, nk_c6, nk_c15, nk_c16, nk_c24, nk_c47, nk_c48, nk_c600, nk_c1728, nk_m1, nk_l0, nk_l1, nk_l2, nk_l3, nk_l5, nk_l15, nk_l24, nk_l47]; omega) | (simp only [nk_lt, nk_le, nk_eq, nk_wd, nk_c0, nk_c1, nk_c2, nk_c3, nk_c4, nk_c5, nk_c6, nk_c15, nk_c16, nk_c24, nk_c47, nk_c48, nk_c600, nk_c1728, nk_m1, nk_l0, nk_l1, nk_l2, nk_l3, nk_l5, nk_l15, nk_l24, nk_l47]; done))]))), trivial⟩, hS.F ht⟩) hS.2.2 dX10_count_47
  by_cases s_3 : p0 = 2
  · subst s_3
    refine lv_tableIn (off := 47) (tgt := 48) hx hb dX10_count_1 (by decide) (by decide) (by decide) (by decide) ?_
    refine lv_aload_n hx hb dX10_count_48 rfl (lv_at hl 0 rfl) ?_
    refine va_get (D := (dC, dI)) (ci := 10) (v := .int 0) (C := RX10) (T := TX10) (N := 13) hx hb hts hiX10 hown hK hP 0 rfl rfl 7 (by decide) (hts (.fieldLink RX10 134 "ScissorsTable" "picked" "I") (by decide +kernel)) (fun _ h9 => h9) rfl dX10_count_49 ?_
    refine W.widen (k := 0) (n := 0) (Nat.le_of_ble_eq_true rfl) (Nat.le_of_ble_eq_true rfl) ?_
    exact W.iret (v := 0) hx hb hr (fun t ht hW => ⟨⟨0, (), rfl, (by (try simp only [nk_lt, nk_le, nk_eq, nk_wd, nk_c0, nk_c1, nk_c2, nk_c3, nk_c4, nk_c5, nk_c6, nk_c15, nk_c16, nk_c24, nk_c47, nk_c48, nk_c600, nk_c1728, nk_m1, nk_l0, nk_l1, nk_l2, nk_l3, nk_l5, nk_l15, nk_l24, nk_l47] at s_1 s_2); (unfold sp_count; first | rfl | decide | (rw [if_pos (by first | omega | (simp only [nk_lt, nk_le, nk_eq, nk_wd, nk_c0, nk_c1, nk_c2, nk_c3, nk_c4, nk_c5, nk_c6, nk_c15, nk_c16, nk_c24, nk_c47, nk_c48, nk_c600, nk_c1728, nk_m1, nk_l0, nk_l1, nk_l2, nk_l3, nk_l5, nk_l15, nk_l24, nk_l47]; omega) | (simp only [nk_lt, nk_le, nk_eq, nk_wd, nk_c0, nk_c1, nk_c2, nk_c3, nk_c4, nk_c5, nk_c6, nk_c15, nk_c16, nk_c24, nk_c47, nk_c48, nk_c600, nk_c1728, nk_m1, nk_l0, nk_l1, nk_l2, nk_l3, nk_l5, nk_l15, nk_l24, nk_l47]; done))]) | (rw [if_neg (by first | omega | (simp only [nk_lt, nk_le, nk_eq, nk_wd, nk_c0, nk_c1, nk_c2, nk_c3, nk_c4, nk_c5, nk_c6, nk_c15, nk_c16, nk_c24, nk_c47, nk_c48, nk_c600, nk_c1728, nk_m1, nk_l0, nk_l1, nk_l2, nk_l3, nk_l5, nk_l15, nk_l24, nk_l47]; omega) | (simp only [nk_lt, nk_le, nk_eq, nk_wd, nk_c0, nk_c1, nk_c2, nk_c3, nk_c4, nk_c5, nk_c6, nk_c15, nk_c16, nk_c24, nk_c47, nk_c48, nk_c600, nk_c1728, nk_m1, nk_l0, nk_l1, nk_l2, nk_l3, nk_l5, nk_l15, nk_l24, nk_l47]; done))]))), trivial⟩, hS.F ht⟩) hS.2.2 dX10_count_52
  by_cases s_4 : p0 = 3
  · subst s_4
    refine lv_tableIn (off := 52) (tgt := 53) hx hb dX10_count_1 (by decide) (by decide) (by decide) (by decide) ?_
    refine lv_aload_n hx hb dX10_count_53 rfl (lv_at hl 0 rfl) ?_
    refine va_get (D := (dC, dI)) (ci := 10) (v := .ref xSta) (C := RX10) (T := TX10) (N := 13) hx hb hts hiX10 hown hK hP 0 rfl rfl 11 (by decide) (hts (.fieldLink RX10 84 "ScissorsTable" "stairs" "LScissorsTable$Stairs;") (by decide +kernel)) (fun _ h9 => h9) rfl dX10_count_54 ?_
    refine va_get (D := (dC, dI)) (ci := 7) (v := .int (-1)) (C := RX7) (T := TX7) (N := 10) hx hb hts hiX7 hown hK hP 3 rfl rfl 0 (by decide) (hts (.fieldLink RX10 137 "ScissorsTable$Stairs" "steps" "I") (by decide +kernel)) (fun _ h9 => h9) rfl dX10_count_57 ?_
    refine W.widen (k := 0) (n := 0) (Nat.le_of_ble_eq_true rfl) (Nat.le_of_ble_eq_true rfl) ?_
    exact W.iret (v := (-1)) hx hb hr (fun t ht hW => ⟨⟨(-1), (), rfl, (by (try simp only [nk_lt, nk_le, nk_eq, nk_wd, nk_c0, nk_c1, nk_c2, nk_c3, nk_c4, nk_c5, nk_c6, nk_c15, nk_c16, nk_c24, nk_c47, nk_c48, nk_c600, nk_c1728, nk_m1, nk_l0, nk_l1, nk_l2, nk_l3, nk_l5, nk_l15, nk_l24, nk_l47] at s_1 s_2 s_3); (unfold sp_count; first | rfl | decide | (rw [if_pos (by first | omega | (simp only [nk_lt, nk_le, nk_eq, nk_wd, nk_c0, nk_c1, nk_c2, nk_c3, nk_c4, nk_c5, nk_c6, nk_c15, nk_c16, nk_c24, nk_c47, nk_c48, nk_c600, nk_c1728, nk_m1, nk_l0, nk_l1, nk_l2, nk_l3, nk_l5, nk_l15, nk_l24, nk_l47]; omega) | (simp only [nk_lt, nk_le, nk_eq, nk_wd, nk_c0, nk_c1, nk_c2, nk_c3, nk_c4, nk_c5, nk_c6, nk_c15, nk_c16, nk_c24, nk_c47, nk_c48, nk_c600, nk_c1728, nk_m1, nk_l0, nk_l1, nk_l2, nk_l3, nk_l5, nk_l15, nk_l24, nk_l47]; done))]) | (rw [if_neg (by first | omega | (simp only [nk_lt, nk_le, nk_eq, nk_wd, nk_c0, nk_c1, nk_c2, nk_c3, nk_c4, nk_c5, nk_c6, nk_c15, nk_c16, nk_c24, nk_c47, nk_c48, nk_c600, nk_c1728, nk_m1, nk_l0, nk_l1, nk_l2, nk_l3, nk_l5, nk_l15, nk_l24, nk_l47]; omega) | (simp only [nk_lt, nk_le, nk_eq, nk_wd, nk_c0, nk_c1, nk_c2, nk_c3, nk_c4, nk_c5, nk_c6, nk_c15, nk_c16, nk_c24, nk_c47, nk_c48, nk_c600, nk_c1728, nk_m1, nk_l0, nk_l1, nk_l2, nk_l3, nk_l5, nk_l15, nk_l24, nk_l47]; done))]))), trivial⟩, hS.F ht⟩) hS.2.2 dX10_count_60
  refine lv_tableOut (tgt := 61) hx hb dX10_count_1 (nk_sw p0 4 (by decide) (fun j hj => match j, hj with | 0, _ => fun e => s_1 (e.trans (by decide)) | 1, _ => fun e => s_2 (e.trans (by decide)) | 2, _ => fun e => s_3 (e.trans (by decide)) | 3, _ => fun e => s_4 (e.trans (by decide)) | k + 4, h => absurd h (by omega))) (by decide) ?_
  refine lv_ldc (v := (-1000000)) hx hb hown (hts (.constant RX10 140 (-1000000)) (by decide +kernel)) dX10_count_61 ?_
  refine W.widen (k := 0) (n := 0) (Nat.le_of_ble_eq_true rfl) (Nat.le_of_ble_eq_true rfl) ?_
  exact W.iret (v := (-1000000)) hx hb hr (fun t ht hW => ⟨⟨(-1000000), (), rfl, (by (try simp only [nk_lt, nk_le, nk_eq, nk_wd, nk_c0, nk_c1, nk_c2, nk_c3, nk_c4, nk_c5, nk_c6, nk_c15, nk_c16, nk_c24, nk_c47, nk_c48, nk_c600, nk_c1728, nk_m1, nk_l0, nk_l1, nk_l2, nk_l3, nk_l5, nk_l15, nk_l24, nk_l47] at s_1 s_2 s_3 s_4); (unfold sp_count; first | rfl | decide | (rw [if_pos (by first | omega | (simp only [nk_lt, nk_le, nk_eq, nk_wd, nk_c0, nk_c1, nk_c2, nk_c3, nk_c4, nk_c5, nk_c6, nk_c15, nk_c16, nk_c24, nk_c47, nk_c48, nk_c600, nk_c1728, nk_m1, nk_l0, nk_l1, nk_l2, nk_l3, nk_l5, nk_l15, nk_l24, nk_l47]; omega) | (simp only [nk_lt, nk_le, nk_eq, nk_wd, nk_c0, nk_c1, nk_c2, nk_c3, nk_c4, nk_c5, nk_c6, nk_c15, nk_c16, nk_c24, nk_c47, nk_c48, nk_c600, nk_c1728, nk_m1, nk_l0, nk_l1, nk_l2, nk_l3, nk_l5, nk_l15, nk_l24, nk_l47]; done))]) | (rw [if_neg (by first | omega | (simp only [nk_lt, nk_le, nk_eq, nk_wd, nk_c0, nk_c1, nk_c2, nk_c3, nk_c4, nk_c5, nk_c6, nk_c15, nk_c16, nk_c24, nk_c47, nk_c48, nk_c600, nk_c1728, nk_m1, nk_l0, nk_l1, nk_l2, nk_l3, nk_l5, nk_l15, nk_l24, nk_l47]; omega) | (simp only [nk_lt, nk_le, nk_eq, nk_wd, nk_c0, nk_c1, nk_c2, nk_c3, nk_c4, nk_c5, nk_c6, nk_c15, nk_c16, nk_c24, nk_c47, nk_c48, nk_c600, nk_c1728, nk_m1, nk_l0, nk_l1, nk_l2, nk_l3, nk_l5, nk_l15, nk_l24, nk_l47]; done))]))), trivial⟩, hS.F ht⟩) hS.2.2 dX10_count_63
set_option maxHeartbeats 4000000 in
set_option maxRecDepth 100000 in
theorem c_X10_end (l : Launch) (dC : Nat → ClassId) (dI : Nat → Nat → Nat) (cB cI cJ : ClassId) (sz : Nat) (x0 xTape xReader xBag xBld xAng xSum xPik xHan xIns xShr xSta xTur tB : Nat) (p0 : Int32) : Met l yX10_end wsX10_end ({ frames := 1, cells := 0, slots := 0, locals := 24 }) (va_Pc [.ref x0, .int p0] (fun U => U.heap.size = sz ∧ va_P (dC, dI) vwCl [(x0, .inr (10, [.ref xTape, .ref xReader, .ref xBag, .ref xBld, .ref xAng, .ref xSum, .ref xPik, .int 0, .ref xHan, .ref xIns, .ref xShr, .ref xSta, .ref xTur])), (xTape, .inr (9, [.ref tB, .int 0]))] U.heap ∧ va_K (dC, dI) vwCl [(cB, .byte), (cI, .int), (cJ, .long)] U ∧ va_D (fun _ => True) [(x0, .inr (10, [.ref xTape, .ref xReader, .ref xBag, .ref xBld, .ref xAng, .ref xSum, .ref xPik, .int 0, .ref xHan, .ref xIns, .ref xShr, .ref xSta, .ref xTur])), (xTape, .inr (9, [.ref tB, .int 0]))])) (va_Qi (fun (r : Int32) (_ : Unit) => r = sp_end p0) (fun _ _ => True) (va_A [(x0, .inr (10, [.ref xTape, .ref xReader, .ref xBag, .ref xBld, .ref xAng, .ref xSum, .ref xPik, .int 0, .ref xHan, .ref xIns, .ref xShr, .ref xSta, .ref xTur])), (xTape, .inr (9, [.ref tB, .int 0]))] sz)) 0 0 (va_A [(x0, .inr (10, [.ref xTape, .ref xReader, .ref xBag, .ref xBld, .ref xAng, .ref xSum, .ref xPik, .int 0, .ref xHan, .ref xIns, .ref xShr, .ref xSta, .ref xTur])), (xTape, .inr (9, [.ref tB, .int 0]))] sz) := by
  refine Met.ofW (cc := cX10_end) (maxL := 2) (ret := (some .boolean)) (by decide) rfl ?_
  intro p e s m args below meth c s₁ B hml hv
  obtain ⟨rfl, hsz, hP, hK, hD0⟩ := hv
  have hx := B.exec
  have hb := B.bytes
  have hr := B.returns
  have hts := atoms_spec (ws := wsX10_end) B.pre
  have hown : s.vm.findClass RX10 = some m.cls := findClass_of_methodNamed B.named
  have hlocks := B.notSynchronized
  have hiX10 : ∀ w ∈ u_ws RX10 TX10 13, w ∈ wsX10_end := by decide +kernel
  have hiX9 : ∀ w ∈ u_ws RX9 TX9 2, w ∈ wsX10_end := by decide +kernel
  subst hsz
  have hD := hD0.self (sz := s.heap.size)
  generalize hAe : va_A [(x0, .inr (10, [.ref xTape, .ref xReader, .ref xBag, .ref xBld, .ref xAng, .ref xSum, .ref xPik, .int 0, .ref xHan, .ref xIns, .ref xShr, .ref xSta, .ref xTur])), (xTape, .inr (9, [.ref tB, .int 0]))] s.heap.size = A at hD ⊢
  have hA : ∀ q : Nat, s.heap.size ≤ q → A q := fun q h => by rw [← hAe]; exact Or.inr h
  have hS : va_S A s.heap s.heap [] := va_S.rf
  have hP : va_P (dC, dI) vwCl [(x0, .inr (10, [.ref xTape, .ref xReader, .ref xBag, .ref xBld, .ref xAng, .ref xSum, .ref xPik, .int 0, .ref xHan, .ref xIns, .ref xShr, .ref xSta, .ref xTur])), (xTape, .inr (9, [.ref tB, .int 0]))] s.heap := hP
  have hl := lv_entry ([.ref x0, .int p0]) (n := 2) (Nat.le_of_ble_eq_true rfl)
  rw [lg_entry_eq]
  generalize (lg_sl ([.ref x0, .int p0]) ++ List.replicate (2 - (lg_sl ([.ref x0, .int p0])).length) Slot.unset).toArray = ls at hl ⊢
  have hl : lv_has ls 2 [(0, .ref x0), (1, .int p0)] := hl
  refine lv_iload_n hx hb dX10_end_0 rfl (lv_at hl 1 rfl) ?_
  refine lv_if_lt (tgt := 15) hx hb dX10_end_1 (by decide) (fun c_1 => ?_) (fun c_1 => ?_)
  · refine lv_iconst (v := 0) hx hb dX10_end_15 (by decide) ?_
    refine W.widen (k := 0) (n := 0) (Nat.le_of_ble_eq_true rfl) (Nat.le_of_ble_eq_true rfl) ?_
    exact W.zret (v := 0) hx hb hr (by decide) (fun t ht hW => ⟨⟨0, (), rfl, (by (try simp only [nk_lt, nk_le, nk_eq, nk_wd, nk_c0, nk_c1, nk_c2, nk_c3, nk_c4, nk_c5, nk_c6, nk_c15, nk_c16, nk_c24, nk_c47, nk_c48, nk_c600, nk_c1728, nk_m1, nk_l0, nk_l1, nk_l2, nk_l3, nk_l5, nk_l15, nk_l24, nk_l47] at c_1); (unfold sp_end; first | rfl | decide | (rw [if_pos (by first | omega | (simp only [nk_lt, nk_le, nk_eq, nk_wd, nk_c0, nk_c1, nk_c2, nk_c3, nk_c4, nk_c5, nk_c6, nk_c15, nk_c16, nk_c24, nk_c47, nk_c48, nk_c600, nk_c1728, nk_m1, nk_l0, nk_l1, nk_l2, nk_l3, nk_l5, nk_l15, nk_l24, nk_l47]; omega) | (simp only [nk_lt, nk_le, nk_eq, nk_wd, nk_c0, nk_c1, nk_c2, nk_c3, nk_c4, nk_c5, nk_c6, nk_c15, nk_c16, nk_c24, nk_c47, nk_c48, nk_c600, nk_c1728, nk_m1, nk_l0, nk_l1, nk_l2, nk_l3, nk_l5, nk_l15, nk_l24, nk_l47]; done))]) | (rw [if_neg (by first | omega | (simp only [nk_lt, nk_le, nk_eq, nk_wd, nk_c0, nk_c1, nk_c2, nk_c3, nk_c4, nk_c5, nk_c6, nk_c15, nk_c16, nk_c24, nk_c47, nk_c48, nk_c600, nk_c1728, nk_m1, nk_l0, nk_l1, nk_l2, nk_l3, nk_l5, nk_l15, nk_l24, nk_l47]; omega) | (simp only [nk_lt, nk_le, nk_eq, nk_wd, nk_c0, nk_c1, nk_c2, nk_c3, nk_c4, nk_c5, nk_c6, nk_c15, nk_c16, nk_c24, nk_c47, nk_c48, nk_c600, nk_c1728, nk_m1, nk_l0, nk_l1, nk_l2, nk_l3, nk_l5, nk_l15, nk_l24, nk_l47]; done))]))), trivial⟩, hS.F ht⟩) hS.2.2 dX10_end_16
  · refine lv_iload_n hx hb dX10_end_4 rfl (lv_at hl 1 rfl) ?_
    refine lv_aload_n hx hb dX10_end_5 rfl (lv_at hl 0 rfl) ?_
    refine va_get (D := (dC, dI)) (ci := 10) (v := .ref xTape) (C := RX10) (T := TX10) (N := 13) hx hb hts hiX10 hown hK hP 0 rfl rfl 0 (by decide) (hts (.fieldLink RX10 10 "ScissorsTable" "tape" "LScissorsTable$Tape;") (by decide +kernel)) (fun _ h9 => h9) rfl dX10_end_6 ?_
    refine va_get (D := (dC, dI)) (ci := 9) (v := .int 0) (C := RX9) (T := TX9) (N := 2) hx hb hts hiX9 hown hK hP 1 rfl rfl 1 (by decide) (hts (.fieldLink RX10 96 "ScissorsTable$Tape" "length" "I") (by decide +kernel)) (fun _ h9 => h9) rfl dX10_end_9 ?_
    refine lv_icmp_le (tgt := 17) hx hb dX10_end_12 (by decide) (fun c_2 => ?_) (fun c_2 => ?_)
    · refine lv_aload_n hx hb dX10_end_17 rfl (lv_at hl 0 rfl) ?_
      refine va_get (D := (dC, dI)) (ci := 10) (v := .ref xTape) (C := RX10) (T := TX10) (N := 13) hx hb hts hiX10 hown hK hP 0 rfl rfl 0 (by decide) (hts (.fieldLink RX10 10 "ScissorsTable" "tape" "LScissorsTable$Tape;") (by decide +kernel)) (fun _ h9 => h9) rfl dX10_end_18 ?_
      refine lv_iload_n hx hb dX10_end_21 rfl (lv_at hl 1 rfl) ?_
      refine va_put (D := (dC, dI)) (ci := 9) (v := .int p0) (ty := .int) (C := RX9) (T := TX9) (N := 2) hx hb hts hiX9 tyX9 tyX9_ok nmX9 hown hK hP hD hS 1 rfl rfl 1 (by decide) (hts (.fieldLink RX10 96 "ScissorsTable$Tape" "length" "I") (by decide +kernel)) (fun _ h9 => h9) rfl (by decide +kernel) rfl rfl (Nat.le_of_ble_eq_true rfl) dX10_end_22 (fun H locs hP hD hS => ?_)
      have hP : va_P (dC, dI) vwCl [(x0, .inr (10, [.ref xTape, .ref xReader, .ref xBag, .ref xBld, .ref xAng, .ref xSum, .ref xPik, .int 0, .ref xHan, .ref xIns, .ref xShr, .ref xSta, .ref xTur])), (xTape, .inr (9, [.ref tB, .int p0]))] H := hP
      have hD : va_D A [(x0, .inr (10, [.ref xTape, .ref xReader, .ref xBag, .ref xBld, .ref xAng, .ref xSum, .ref xPik, .int 0, .ref xHan, .ref xIns, .ref xShr, .ref xSta, .ref xTur])), (xTape, .inr (9, [.ref tB, .int p0]))] := hD
      refine lv_iconst (v := 1) hx hb dX10_end_25 (by decide) ?_
      refine W.widen (k := 0) (n := 0) (Nat.le_of_ble_eq_true rfl) (Nat.le_of_ble_eq_true rfl) ?_
      exact W.zret (v := 1) hx hb hr (by decide) (fun t ht hW => ⟨⟨1, (), rfl, (by (try simp only [nk_lt, nk_le, nk_eq, nk_wd, nk_c0, nk_c1, nk_c2, nk_c3, nk_c4, nk_c5, nk_c6, nk_c15, nk_c16, nk_c24, nk_c47, nk_c48, nk_c600, nk_c1728, nk_m1, nk_l0, nk_l1, nk_l2, nk_l3, nk_l5, nk_l15, nk_l24, nk_l47] at c_1 c_2); (unfold sp_end; first | rfl | decide | (rw [if_pos (by first | omega | (simp only [nk_lt, nk_le, nk_eq, nk_wd, nk_c0, nk_c1, nk_c2, nk_c3, nk_c4, nk_c5, nk_c6, nk_c15, nk_c16, nk_c24, nk_c47, nk_c48, nk_c600, nk_c1728, nk_m1, nk_l0, nk_l1, nk_l2, nk_l3, nk_l5, nk_l15, nk_l24, nk_l47]; omega) | (simp only [nk_lt, nk_le, nk_eq, nk_wd, nk_c0, nk_c1, nk_c2, nk_c3, nk_c4, nk_c5, nk_c6, nk_c15, nk_c16, nk_c24, nk_c47, nk_c48, nk_c600, nk_c1728, nk_m1, nk_l0, nk_l1, nk_l2, nk_l3, nk_l5, nk_l15, nk_l24, nk_l47]; done))]) | (rw [if_neg (by first | omega | (simp only [nk_lt, nk_le, nk_eq, nk_wd, nk_c0, nk_c1, nk_c2, nk_c3, nk_c4, nk_c5, nk_c6, nk_c15, nk_c16, nk_c24, nk_c47, nk_c48, nk_c600, nk_c1728, nk_m1, nk_l0, nk_l1, nk_l2, nk_l3, nk_l5, nk_l15, nk_l24, nk_l47]; omega) | (simp only [nk_lt, nk_le, nk_eq, nk_wd, nk_c0, nk_c1, nk_c2, nk_c3, nk_c4, nk_c5, nk_c6, nk_c15, nk_c16, nk_c24, nk_c47, nk_c48, nk_c600, nk_c1728, nk_m1, nk_l0, nk_l1, nk_l2, nk_l3, nk_l5, nk_l15, nk_l24, nk_l47]; done))]))), trivial⟩, hS.F ht⟩) hS.2.2 dX10_end_26
    · refine lv_iconst (v := 0) hx hb dX10_end_15 (by decide) ?_
      refine W.widen (k := 0) (n := 0) (Nat.le_of_ble_eq_true rfl) (Nat.le_of_ble_eq_true rfl) ?_
      exact W.zret (v := 0) hx hb hr (by decide) (fun t ht hW => ⟨⟨0, (), rfl, (by (try simp only [nk_lt, nk_le, nk_eq, nk_wd, nk_c0, nk_c1, nk_c2, nk_c3, nk_c4, nk_c5, nk_c6, nk_c15, nk_c16, nk_c24, nk_c47, nk_c48, nk_c600, nk_c1728, nk_m1, nk_l0, nk_l1, nk_l2, nk_l3, nk_l5, nk_l15, nk_l24, nk_l47] at c_1 c_2); (unfold sp_end; first | rfl | decide | (rw [if_pos (by first | omega | (simp only [nk_lt, nk_le, nk_eq, nk_wd, nk_c0, nk_c1, nk_c2, nk_c3, nk_c4, nk_c5, nk_c6, nk_c15, nk_c16, nk_c24, nk_c47, nk_c48, nk_c600, nk_c1728, nk_m1, nk_l0, nk_l1, nk_l2, nk_l3, nk_l5, nk_l15, nk_l24, nk_l47]; omega) | (simp only [nk_lt, nk_le, nk_eq, nk_wd, nk_c0, nk_c1, nk_c2, nk_c3, nk_c4, nk_c5, nk_c6, nk_c15, nk_c16, nk_c24, nk_c47, nk_c48, nk_c600, nk_c1728, nk_m1, nk_l0, nk_l1, nk_l2, nk_l3, nk_l5, nk_l15, nk_l24, nk_l47]; done))]) | (rw [if_neg (by first | omega | (simp only [nk_lt, nk_le, nk_eq, nk_wd, nk_c0, nk_c1, nk_c2, nk_c3, nk_c4, nk_c5, nk_c6, nk_c15, nk_c16, nk_c24, nk_c47, nk_c48, nk_c600, nk_c1728, nk_m1, nk_l0, nk_l1, nk_l2, nk_l3, nk_l5, nk_l15, nk_l24, nk_l47]; omega) | (simp only [nk_lt, nk_le, nk_eq, nk_wd, nk_c0, nk_c1, nk_c2, nk_c3, nk_c4, nk_c5, nk_c6, nk_c15, nk_c16, nk_c24, nk_c47, nk_c48, nk_c600, nk_c1728, nk_m1, nk_l0, nk_l1, nk_l2, nk_l3, nk_l5, nk_l15, nk_l24, nk_l47]; done))]))), trivial⟩, hS.F ht⟩) hS.2.2 dX10_end_16
set_option maxHeartbeats 4000000 in
set_option maxRecDepth 100000 in
theorem c_X10_forgetPicks (l : Launch) (dC : Nat → ClassId) (dI : Nat → Nat → Nat) (cB cI cJ : ClassId) (sz : Nat) (x0 xTape xReader xBag xBld xAng xSum xPik xHan xIns xShr xSta xTur kM kP kA : Nat) : Met l yX10_forgetPicks wsX10_forgetPicks ({ frames := 2, cells := 0, slots := 0, locals := 44 }) (va_Pc [.ref x0] (fun U => U.heap.size = sz ∧ va_P (dC, dI) vwCl [(x0, .inr (10, [.ref xTape, .ref xReader, .ref xBag, .ref xBld, .ref xAng, .ref xSum, .ref xPik, .int 0, .ref xHan, .ref xIns, .ref xShr, .ref xSta, .ref xTur])), (xPik, .inr (8, [.ref kM, .ref kP, .ref kA, .int 0]))] U.heap ∧ va_K (dC, dI) vwCl [(cB, .byte), (cI, .int), (cJ, .long)] U ∧ va_D (fun _ => True) [(x0, .inr (10, [.ref xTape, .ref xReader, .ref xBag, .ref xBld, .ref xAng, .ref xSum, .ref xPik, .int 0, .ref xHan, .ref xIns, .ref xShr, .ref xSta, .ref xTur])), (xPik, .inr (8, [.ref kM, .ref kP, .ref kA, .int 0]))])) (va_Qv (fun _ : Unit => True) (fun _ _ => True) (va_A [(x0, .inr (10, [.ref xTape, .ref xReader, .ref xBag, .ref xBld, .ref xAng, .ref xSum, .ref xPik, .int 0, .ref xHan, .ref xIns, .ref xShr, .ref xSta, .ref xTur])), (xPik, .inr (8, [.ref kM, .ref kP, .ref kA, .int 0]))] sz)) 0 0 (va_A [(x0, .inr (10, [.ref xTape, .ref xReader, .ref xBag, .ref xBld, .ref xAng, .ref xSum, .ref xPik, .int 0, .ref xHan, .ref xIns, .ref xShr, .ref xSta, .ref xTur])), (xPik, .inr (8, [.ref kM, .ref kP, .ref kA, .int 0]))] sz) := by
  refine Met.ofW (cc := cX10_forgetPicks) (maxL := 1) (ret := none) (by decide) rfl ?_
  intro p e s m args below meth c s₁ B hml hv
  obtain ⟨rfl, hsz, hP, hK, hD0⟩ := hv
  have hx := B.exec
  have hb := B.bytes
  have hr := B.returns
  have hts := atoms_spec (ws := wsX10_forgetPicks) B.pre
  have hown : s.vm.findClass RX10 = some m.cls := findClass_of_methodNamed B.named
  have hlocks := B.notSynchronized
  have hiX10 : ∀ w ∈ u_ws RX10 TX10 13, w ∈ wsX10_forgetPicks := by decide +kernel
  subst hsz
  have hD := hD0.self (sz := s.heap.size)
  generalize hAe : va_A [(x0, .inr (10, [.ref xTape, .ref xReader, .ref xBag, .ref xBld, .ref xAng, .ref xSum, .ref xPik, .int 0, .ref xHan, .ref xIns, .ref xShr, .ref xSta, .ref xTur])), (xPik, .inr (8, [.ref kM, .ref kP, .ref kA, .int 0]))] s.heap.size = A at hD ⊢
  have hA : ∀ q : Nat, s.heap.size ≤ q → A q := fun q h => by rw [← hAe]; exact Or.inr h
  have hS : va_S A s.heap s.heap [] := va_S.rf
  have hP : va_P (dC, dI) vwCl [(x0, .inr (10, [.ref xTape, .ref xReader, .ref xBag, .ref xBld, .ref xAng, .ref xSum, .ref xPik, .int 0, .ref xHan, .ref xIns, .ref xShr, .ref xSta, .ref xTur])), (xPik, .inr (8, [.ref kM, .ref kP, .ref kA, .int 0]))] s.heap := hP
  have hl := lv_entry ([.ref x0]) (n := 1) (Nat.le_of_ble_eq_true rfl)
  rw [lg_entry_eq]
  generalize (lg_sl ([.ref x0]) ++ List.replicate (1 - (lg_sl ([.ref x0])).length) Slot.unset).toArray = ls at hl ⊢
  have hl : lv_has ls 1 [(0, .ref x0)] := hl
  refine lv_aload_n hx hb dX10_forgetPicks_0 rfl (lv_at hl 0 rfl) ?_
  refine lv_iconst (v := 0) hx hb dX10_forgetPicks_1 (by decide) ?_
  refine va_put (D := (dC, dI)) (ci := 10) (v := .int 0) (ty := .int) (C := RX10) (T := TX10) (N := 13) hx hb hts hiX10 tyX10 tyX10_ok nmX10 hown hK hP hD hS 0 rfl rfl 7 (by decide) (hts (.fieldLink RX10 134 "ScissorsTable" "picked" "I") (by decide +kernel)) (fun _ h9 => h9) rfl (by decide +kernel) rfl rfl (Nat.le_of_ble_eq_true rfl) dX10_forgetPicks_2 (fun H locs hP hD hS => ?_)
  have hP : va_P (dC, dI) vwCl [(x0, .inr (10, [.ref xTape, .ref xReader, .ref xBag, .ref xBld, .ref xAng, .ref xSum, .ref xPik, .int 0, .ref xHan, .ref xIns, .ref xShr, .ref xSta, .ref xTur])), (xPik, .inr (8, [.ref kM, .ref kP, .ref kA, .int 0]))] H := hP
  have hD : va_D A [(x0, .inr (10, [.ref xTape, .ref xReader, .ref xBag, .ref xBld, .ref xAng, .ref xSum, .ref xPik, .int 0, .ref xHan, .ref xIns, .ref xShr, .ref xSta, .ref xTur])), (xPik, .inr (8, [.ref kM, .ref kP, .ref kA, .int 0]))] := hD
  refine lv_aload_n hx hb dX10_forgetPicks_5 rfl (lv_at hl 0 rfl) ?_
  refine va_get (D := (dC, dI)) (ci := 10) (v := .ref xPik) (C := RX10) (T := TX10) (N := 13) hx hb hts hiX10 hown hK hP 0 rfl rfl 6 (by decide) (hts (.fieldLink RX10 55 "ScissorsTable" "picks" "LScissorsTable$Sums;") (by decide +kernel)) (fun _ h9 => h9) rfl dX10_forgetPicks_6 ?_
  have hPc := hP.sub (ws' := [(xPik, .inr (8, [.ref kM, .ref kP, .ref kA, .int 0]))]) [1] rfl
  have hDc := hD.sub (ws' := [(xPik, .inr (8, [.ref kM, .ref kP, .ref kA, .int 0]))]) [1] (by decide) rfl
  have hFc := va_free (wc := [(xPik, .inr (8, [.ref kM, .ref kP, .ref kA, .int 0]))]) hD hS hA [1] rfl
  refine va_callv (va_runV (As := []) (rest := []) ⟨hx, hb, hml, hown, hts⟩ (c_X8_clear l dC dI cB cI cJ H.size xPik kM kP kA) (cwV 0 hts gX10_forgetPicks_X8_clear rfl rfl rfl (by decide +kernel) ⟨Nat.le_of_ble_eq_true rfl, Nat.le_of_ble_eq_true rfl⟩) ⟨fun a U g mk q => by obtain ⟨q0, q1, qP, qK, qD⟩ := q; exact ⟨q0, q1, qP, va_K.moved (u := U) (U := U.calling g mk a) (Vm.Alike.refl U.vm) qK, qD⟩, va_recv hK hP (ci := 8) (q0 := 1) rfl rfl, fun U hU hW => ⟨rfl, by rw [hU], by rw [hU]; exact hPc, va_K.moved hW.alike hK, hDc.weaken (fun _ _ _ _ => trivial)⟩⟩ rfl rfl hl.1 rfl (lv_room (Nat.le_of_ble_eq_true rfl)) dX10_forgetPicks_9 ⟨Nat.le_of_ble_eq_true rfl, Nat.le_of_ble_eq_true rfl⟩) hS (fun q _ h => hFc q h) hFc (fun u t H1 locs ht hvm hw hB hz1 hk1 hS => ?_)
  obtain ⟨hP1, hK1, hD1⟩ := hB
  rw [ht] at hP1
  obtain ⟨hP, hD⟩ := va_join (wr := [(x0, .inr (10, [.ref xTape, .ref xReader, .ref xBag, .ref xBld, .ref xAng, .ref xSum, .ref xPik, .int 0, .ref xHan, .ref xIns, .ref xShr, .ref xSta, .ref xTur]))]) (w1 := [(xPik, .inr (8, [.ref kM, .ref kP, .ref kA, .int 0]))]) hP hD [1] [0] rfl rfl (by decide) (by decide) hk1 hFc hP1 hD1
  generalize H1 = H at hP hS ⊢
  have hP : va_P (dC, dI) vwCl [(x0, .inr (10, [.ref xTape, .ref xReader, .ref xBag, .ref xBld, .ref xAng, .ref xSum, .ref xPik, .int 0, .ref xHan, .ref xIns, .ref xShr, .ref xSta, .ref xTur])), (xPik, .inr (8, [.ref kM, .ref kP, .ref kA, .int 0]))] H := hP
  have hD : va_D A [(x0, .inr (10, [.ref xTape, .ref xReader, .ref xBag, .ref xBld, .ref xAng, .ref xSum, .ref xPik, .int 0, .ref xHan, .ref xIns, .ref xShr, .ref xSta, .ref xTur])), (xPik, .inr (8, [.ref kM, .ref kP, .ref kA, .int 0]))] := hD
  refine W.widen (k := 0) (n := 0) (Nat.le_of_ble_eq_true rfl) (Nat.le_of_ble_eq_true rfl) ?_
  exact W.vret hx hb hr (fun t ht hW => ⟨⟨(), rfl, trivial, trivial⟩, hS.F ht⟩) hS.2.2 dX10_forgetPicks_12
set_option maxHeartbeats 4000000 in
set_option maxRecDepth 100000 in
theorem c_X10_unpick (l : Launch) (dC : Nat → ClassId) (dI : Nat → Nat → Nat) (cB cI cJ : ClassId) (sz : Nat) (x0 xTape xReader xBag xBld xAng xSum xPik xHan xIns xShr xSta xTur kM kP kA : Nat) : Met l yX10_unpick wsX10_unpick ({ frames := 3, cells := 0, slots := 0, locals := 64 }) (va_Pc [.ref x0] (fun U => U.heap.size = sz ∧ va_P (dC, dI) vwCl [(x0, .inr (10, [.ref xTape, .ref xReader, .ref xBag, .ref xBld, .ref xAng, .ref xSum, .ref xPik, .int 0, .ref xHan, .ref xIns, .ref xShr, .ref xSta, .ref xTur])), (xPik, .inr (8, [.ref kM, .ref kP, .ref kA, .int 0]))] U.heap ∧ va_K (dC, dI) vwCl [(cB, .byte), (cI, .int), (cJ, .long)] U ∧ va_D (fun _ => True) [(x0, .inr (10, [.ref xTape, .ref xReader, .ref xBag, .ref xBld, .ref xAng, .ref xSum, .ref xPik, .int 0, .ref xHan, .ref xIns, .ref xShr, .ref xSta, .ref xTur])), (xPik, .inr (8, [.ref kM, .ref kP, .ref kA, .int 0]))])) (va_Qi (fun (r : Int32) (_ : Unit) => r = 0) (fun _ _ => True) (va_A [(x0, .inr (10, [.ref xTape, .ref xReader, .ref xBag, .ref xBld, .ref xAng, .ref xSum, .ref xPik, .int 0, .ref xHan, .ref xIns, .ref xShr, .ref xSta, .ref xTur])), (xPik, .inr (8, [.ref kM, .ref kP, .ref kA, .int 0]))] sz)) 0 0 (va_A [(x0, .inr (10, [.ref xTape, .ref xReader, .ref xBag, .ref xBld, .ref xAng, .ref xSum, .ref xPik, .int 0, .ref xHan, .ref xIns, .ref xShr, .ref xSta, .ref xTur])), (xPik, .inr (8, [.ref kM, .ref kP, .ref kA, .int 0]))] sz) := by
  refine Met.ofW (cc := cX10_unpick) (maxL := 2) (ret := (some .int)) (by decide) rfl ?_
  intro p e s m args below meth c s₁ B hml hv
  obtain ⟨rfl, hsz, hP, hK, hD0⟩ := hv
  have hx := B.exec
  have hb := B.bytes
  have hr := B.returns
  have hts := atoms_spec (ws := wsX10_unpick) B.pre
  have hown : s.vm.findClass RX10 = some m.cls := findClass_of_methodNamed B.named
  have hlocks := B.notSynchronized
  have hiX10 : ∀ w ∈ u_ws RX10 TX10 13, w ∈ wsX10_unpick := by decide +kernel
  subst hsz
  have hD := hD0.self (sz := s.heap.size)
  generalize hAe : va_A [(x0, .inr (10, [.ref xTape, .ref xReader, .ref xBag, .ref xBld, .ref xAng, .ref xSum, .ref xPik, .int 0, .ref xHan, .ref xIns, .ref xShr, .ref xSta, .ref xTur])), (xPik, .inr (8, [.ref kM, .ref kP, .ref kA, .int 0]))] s.heap.size = A at hD ⊢
  have hA : ∀ q : Nat, s.heap.size ≤ q → A q := fun q h => by rw [← hAe]; exact Or.inr h
  have hS : va_S A s.heap s.heap [] := va_S.rf
  have hP : va_P (dC, dI) vwCl [(x0, .inr (10, [.ref xTape, .ref xReader, .ref xBag, .ref xBld, .ref xAng, .ref xSum, .ref xPik, .int 0, .ref xHan, .ref xIns, .ref xShr, .ref xSta, .ref xTur])), (xPik, .inr (8, [.ref kM, .ref kP, .ref kA, .int 0]))] s.heap := hP
  have hl := lv_entry ([.ref x0]) (n := 2) (Nat.le_of_ble_eq_true rfl)
  rw [lg_entry_eq]
  generalize (lg_sl ([.ref x0]) ++ List.replicate (2 - (lg_sl ([.ref x0])).length) Slot.unset).toArray = ls at hl ⊢
  have hl : lv_has ls 2 [(0, .ref x0)] := hl
  refine lv_aload_n hx hb dX10_unpick_0 rfl (lv_at hl 0 rfl) ?_
  refine va_get (D := (dC, dI)) (ci := 10) (v := .int 0) (C := RX10) (T := TX10) (N := 13) hx hb hts hiX10 hown hK hP 0 rfl rfl 7 (by decide) (hts (.fieldLink RX10 134 "ScissorsTable" "picked" "I") (by decide +kernel)) (fun _ h9 => h9) rfl dX10_unpick_1 ?_
  refine lv_istore_n (lv' := [(1, .int 0), (0, .ref x0)]) hx hb dX10_unpick_4 rfl hl (by decide) rfl (fun ls hl => ?_)
  refine lv_aload_n hx hb dX10_unpick_5 rfl (lv_at hl 1 rfl) ?_
  have hPc := hP.sub (ws' := [(x0, .inr (10, [.ref xTape, .ref xReader, .ref xBag, .ref xBld, .ref xAng, .ref xSum, .ref xPik, .int 0, .ref xHan, .ref xIns, .ref xShr, .ref xSta, .ref xTur])), (xPik, .inr (8, [.ref kM, .ref kP, .ref kA, .int 0]))]) [0, 1] rfl
  have hDc := hD.sub (ws' := [(x0, .inr (10, [.ref xTape, .ref xReader, .ref xBag, .ref xBld, .ref xAng, .ref xSum, .ref xPik, .int 0, .ref xHan, .ref xIns, .ref xShr, .ref xSta, .ref xTur])), (xPik, .inr (8, [.ref kM, .ref kP, .ref kA, .int 0]))]) [0, 1] (by decide) rfl
  have hFc := va_free (wc := [(x0, .inr (10, [.ref xTape, .ref xReader, .ref xBag, .ref xBld, .ref xAng, .ref xSum, .ref xPik, .int 0, .ref xHan, .ref xIns, .ref xShr, .ref xSta, .ref xTur])), (xPik, .inr (8, [.ref kM, .ref kP, .ref kA, .int 0]))]) hD hS hA [0, 1] rfl
  refine va_callv (va_runV (As := []) (rest := []) ⟨hx, hb, hml, hown, hts⟩ (c_X10_forgetPicks l dC dI cB cI cJ s.heap.size x0 xTape xReader xBag xBld xAng xSum xPik xHan xIns xShr xSta xTur kM kP kA) (cwV 0 hts gX10_unpick_X10_forgetPicks rfl rfl rfl (by decide +kernel) ⟨Nat.le_of_ble_eq_true rfl, Nat.le_of_ble_eq_true rfl⟩) ⟨fun a U g mk q => by obtain ⟨q0, q1, qP, qK, qD⟩ := q; exact ⟨q0, q1, qP, va_K.moved (u := U) (U := U.calling g mk a) (Vm.Alike.refl U.vm) qK, qD⟩, va_recv hK hP (ci := 10) (q0 := 0) rfl rfl, fun U hU hW => ⟨rfl, by rw [hU], by rw [hU]; exact hPc, va_K.moved hW.alike hK, hDc.weaken (fun _ _ _ _ => trivial)⟩⟩ rfl rfl hl.1 rfl (lv_room (Nat.le_of_ble_eq_true rfl)) dX10_unpick_6 ⟨Nat.le_of_ble_eq_true rfl, Nat.le_of_ble_eq_true rfl⟩) hS (fun q _ h => hFc q h) hFc (fun u t H1 locs ht hvm hw hB hz1 hk1 hS => ?_)
  have hP1 : va_P (dC, dI) vwCl [] H1 := fun k q h => by simp at h
  have hD1 : va_D (va_A [(x0, .inr (10, [.ref xTape, .ref xReader, .ref xBag, .ref xBld, .ref xAng, .ref xSum, .ref xPik, .int 0, .ref xHan, .ref xIns, .ref xShr, .ref xSta, .ref xTur])), (xPik, .inr (8, [.ref kM, .ref kP, .ref kA, .int 0]))] s.heap.size) [] := ⟨fun i j p q h => by simp at h, fun k q h => by simp at h⟩
  obtain ⟨hP, hD⟩ := va_join (wr := []) (w1 := []) hP hD [0, 1] [] rfl rfl (by decide) (by decide) hk1 hFc hP1 hD1
  generalize H1 = H at hP hS ⊢
  have hP : va_P (dC, dI) vwCl [] H := hP
  have hD : va_D A [] := hD
  refine lv_iload_n hx hb dX10_unpick_9 rfl (lv_at hl 0 rfl) ?_
  refine W.widen (k := 0) (n := 0) (Nat.le_of_ble_eq_true rfl) (Nat.le_of_ble_eq_true rfl) ?_
  exact W.iret (v := 0) hx hb hr (fun t ht hW => ⟨⟨0, (), rfl, rfl, trivial⟩, hS.F ht⟩) hS.2.2 dX10_unpick_10
set_option maxHeartbeats 4000000 in
set_option maxRecDepth 100000 in
theorem c_X3_begin (l : Launch) (dC : Nat → ClassId) (dI : Nat → Nat → Nat) (cB cI cJ : ClassId) (sz : Nat) (xHan hH hR hT hM : Nat) : Met l yX3_begin wsX3_begin ({ frames := 1, cells := 0, slots := 0, locals := 24 }) (va_Pc [.ref xHan] (fun U => U.heap.size = sz ∧ va_P (dC, dI) vwCl [(xHan, .inr (3, [.int 0, .int 0, .int 0, .ref hH, .ref hR, .ref hT, .ref hM]))] U.heap ∧ va_K (dC, dI) vwCl [(cB, .byte), (cI, .int), (cJ, .long)] U ∧ va_D (fun _ => True) [(xHan, .inr (3, [.int 0, .int 0, .int 0, .ref hH, .ref hR, .ref hT, .ref hM]))])) (va_Qv (fun _ : Unit => True) (fun _ t => va_P (dC, dI) vwCl [(xHan, .inr (3, [.int 0, .int 0, .int 0, .ref hH, .ref hR, .ref hT, .ref hM]))] t.heap ∧ va_K (dC, dI) vwCl [(cB, .byte), (cI, .int), (cJ, .long)] t ∧ va_D (va_A [(xHan, .inr (3, [.int 0, .int 0, .int 0, .ref hH, .ref hR, .ref hT, .ref hM]))] sz) [(xHan, .inr (3, [.int 0, .int 0, .int 0, .ref hH, .ref hR, .ref hT, .ref hM]))]) (va_A [(xHan, .inr (3, [.int 0, .int 0, .int 0, .ref hH, .ref hR, .ref hT, .ref hM]))] sz)) 0 0 (va_A [(xHan, .inr (3, [.int 0, .int 0, .int 0, .ref hH, .ref hR, .ref hT, .ref hM]))] sz) := by
  refine Met.ofW (cc := cX3_begin) (maxL := 1) (ret := none) (by decide) rfl ?_
  intro p e s m args below meth c s₁ B hml hv
  obtain ⟨rfl, hsz, hP, hK, hD0⟩ := hv
  have hx := B.exec
  have hb := B.bytes
  have hr := B.returns
  have hts := atoms_spec (ws := wsX3_begin) B.pre
  have hown : s.vm.findClass RX3 = some m.cls := findClass_of_methodNamed B.named
  have hlocks := B.notSynchronized
  have hiX3 : ∀ w ∈ u_ws RX3 TX3 7, w ∈ wsX3_begin := by decide +kernel
  subst hsz
  have hD := hD0.self (sz := s.heap.size)
  generalize hAe : va_A [(xHan, .inr (3, [.int 0, .int 0, .int 0, .ref hH, .ref hR, .ref hT, .ref hM]))] s.heap.size = A at hD ⊢
  have hA : ∀ q : Nat, s.heap.size ≤ q → A q := fun q h => by rw [← hAe]; exact Or.inr h
  have hS : va_S A s.heap s.heap [] := va_S.rf
  have hP : va_P (dC, dI) vwCl [(xHan, .inr (3, [.int 0, .int 0, .int 0, .ref hH, .ref hR, .ref hT, .ref hM]))] s.heap := hP
  have hl := lv_entry ([.ref xHan]) (n := 1) (Nat.le_of_ble_eq_true rfl)
  rw [lg_entry_eq]
  generalize (lg_sl ([.ref xHan]) ++ List.replicate (1 - (lg_sl ([.ref xHan])).length) Slot.unset).toArray = ls at hl ⊢
  have hl : lv_has ls 1 [(0, .ref xHan)] := hl
  refine lv_aload_n hx hb dX3_begin_0 rfl (lv_at hl 0 rfl) ?_
  refine lv_iconst (v := 0) hx hb dX3_begin_1 (by decide) ?_
  refine va_put (D := (dC, dI)) (ci := 3) (v := .int 0) (ty := .int) (C := RX3) (T := TX3) (N := 7) hx hb hts hiX3 tyX3 tyX3_ok nmX3 hown hK hP hD hS 0 rfl rfl 0 (by decide) (hts (.fieldLink RX3 25 "ScissorsTable$Hang" "rank" "I") (by decide +kernel)) (fun _ h9 => h9) rfl (by decide +kernel) rfl rfl (Nat.le_of_ble_eq_true rfl) dX3_begin_2 (fun H locs hP hD hS => ?_)
  have hP : va_P (dC, dI) vwCl [(xHan, .inr (3, [.int 0, .int 0, .int 0, .ref hH, .ref hR, .ref hT, .ref hM]))] H := hP
  have hD : va_D A [(xHan, .inr (3, [.int 0, .int 0, .int 0, .ref hH, .ref hR, .ref hT, .ref hM]))] := hD
  refine lv_aload_n hx hb dX3_begin_5 rfl (lv_at hl 0 rfl) ?_
  refine lv_iconst (v := 0) hx hb dX3_begin_6 (by decide) ?_
  refine va_put (D := (dC, dI)) (ci := 3) (v := .int 0) (ty := .int) (C := RX3) (T := TX3) (N := 7) hx hb hts hiX3 tyX3 tyX3_ok nmX3 hown hK hP hD hS 0 rfl rfl 1 (by decide) (hts (.fieldLink RX3 29 "ScissorsTable$Hang" "taken" "I") (by decide +kernel)) (fun _ h9 => h9) rfl (by decide +kernel) rfl rfl (Nat.le_of_ble_eq_true rfl) dX3_begin_7 (fun H locs hP hD hS => ?_)
  have hP : va_P (dC, dI) vwCl [(xHan, .inr (3, [.int 0, .int 0, .int 0, .ref hH, .ref hR, .ref hT, .ref hM]))] H := hP
  have hD : va_D A [(xHan, .inr (3, [.int 0, .int 0, .int 0, .ref hH, .ref hR, .ref hT, .ref hM]))] := hD
  refine lv_aload_n hx hb dX3_begin_10 rfl (lv_at hl 0 rfl) ?_
  refine lv_iconst (v := 0) hx hb dX3_begin_11 (by decide) ?_
  refine va_put (D := (dC, dI)) (ci := 3) (v := .int 0) (ty := .boolean) (C := RX3) (T := TX3) (N := 7) hx hb hts hiX3 tyX3 tyX3_ok nmX3 hown hK hP hD hS 0 rfl rfl 2 (by decide) (hts (.fieldLink RX3 32 "ScissorsTable$Hang" "related" "Z") (by decide +kernel)) (fun _ h9 => h9) rfl (by decide +kernel) rfl rfl (Nat.le_of_ble_eq_true rfl) dX3_begin_12 (fun H locs hP hD hS => ?_)
  have hP : va_P (dC, dI) vwCl [(xHan, .inr (3, [.int 0, .int 0, .int 0, .ref hH, .ref hR, .ref hT, .ref hM]))] H := hP
  have hD : va_D A [(xHan, .inr (3, [.int 0, .int 0, .int 0, .ref hH, .ref hR, .ref hT, .ref hM]))] := hD
  have hP9 := hP.sub (ws' := [(xHan, .inr (3, [.int 0, .int 0, .int 0, .ref hH, .ref hR, .ref hT, .ref hM]))]) [0] rfl
  have hD9 := hD.sub (ws' := [(xHan, .inr (3, [.int 0, .int 0, .int 0, .ref hH, .ref hR, .ref hT, .ref hM]))]) [0] (by decide) rfl
  refine W.widen (k := 0) (n := 0) (Nat.le_of_ble_eq_true rfl) (Nat.le_of_ble_eq_true rfl) ?_
  exact W.vret hx hb hr (fun t ht hW => ⟨⟨(), rfl, trivial, by rw [ht]; exact hP9, va_K.moved hW.alike hK, hD9⟩, hS.F ht⟩) hS.2.2 dX3_begin_15
set_option maxHeartbeats 4000000 in
set_option maxRecDepth 100000 in
theorem c_X10_hangPicks (l : Launch) (dC : Nat → ClassId) (dI : Nat → Nat → Nat) (cB cI cJ : ClassId) (sz : Nat) (x0 xTape xReader xBag xBld xAng xSum xPik xHan xIns xShr xSta xTur hH hR hT hM : Nat) : Met l yX10_hangPicks wsX10_hangPicks ({ frames := 2, cells := 0, slots := 0, locals := 44 }) (va_Pc [.ref x0] (fun U => U.heap.size = sz ∧ va_P (dC, dI) vwCl [(x0, .inr (10, [.ref xTape, .ref xReader, .ref xBag, .ref xBld, .ref xAng, .ref xSum, .ref xPik, .int 0, .ref xHan, .ref xIns, .ref xShr, .ref xSta, .ref xTur])), (xHan, .inr (3, [.int 0, .int 0, .int 0, .ref hH, .ref hR, .ref hT, .ref hM]))] U.heap ∧ va_K (dC, dI) vwCl [(cB, .byte), (cI, .int), (cJ, .long)] U ∧ va_D (fun _ => True) [(x0, .inr (10, [.ref xTape, .ref xReader, .ref xBag, .ref xBld, .ref xAng, .ref xSum, .ref xPik, .int 0, .ref xHan, .ref xIns, .ref xShr, .ref xSta, .ref xTur])), (xHan, .inr (3, [.int 0, .int 0, .int 0, .ref hH, .ref hR, .ref hT, .ref hM]))])) (va_Qv (fun _ : Unit => True) (fun _ t => va_P (dC, dI) vwCl [(x0, .inr (10, [.ref xTape, .ref xReader, .ref xBag, .ref xBld, .ref xAng, .ref xSum, .ref xPik, .int 0, .ref xHan, .ref xIns, .ref xShr, .ref xSta, .ref xTur])), (xHan, .inr (3, [.int 0, .int 0, .int 0, .ref hH, .ref hR, .ref hT, .ref hM]))] t.heap ∧ va_K (dC, dI) vwCl [(cB, .byte), (cI, .int), (cJ, .long)] t ∧ va_D (va_A [(x0, .inr (10, [.ref xTape, .ref xReader, .ref xBag, .ref xBld, .ref xAng, .ref xSum, .ref xPik, .int 0, .ref xHan, .ref xIns, .ref xShr, .ref xSta, .ref xTur])), (xHan, .inr (3, [.int 0, .int 0, .int 0, .ref hH, .ref hR, .ref hT, .ref hM]))] sz) [(x0, .inr (10, [.ref xTape, .ref xReader, .ref xBag, .ref xBld, .ref xAng, .ref xSum, .ref xPik, .int 0, .ref xHan, .ref xIns, .ref xShr, .ref xSta, .ref xTur])), (xHan, .inr (3, [.int 0, .int 0, .int 0, .ref hH, .ref hR, .ref hT, .ref hM]))]) (va_A [(x0, .inr (10, [.ref xTape, .ref xReader, .ref xBag, .ref xBld, .ref xAng, .ref xSum, .ref xPik, .int 0, .ref xHan, .ref xIns, .ref xShr, .ref xSta, .ref xTur])), (xHan, .inr (3, [.int 0, .int 0, .int 0, .ref hH, .ref hR, .ref hT, .ref hM]))] sz)) 0 0 (va_A [(x0, .inr (10, [.ref xTape, .ref xReader, .ref xBag, .ref xBld, .ref xAng, .ref xSum, .ref xPik, .int 0, .ref xHan, .ref xIns, .ref xShr, .ref xSta, .ref xTur])), (xHan, .inr (3, [.int 0, .int 0, .int 0, .ref hH, .ref hR, .ref hT, .ref hM]))] sz) := by
  refine Met.ofW (cc := cX10_hangPicks) (maxL := 2) (ret := none) (by decide) rfl ?_
  intro p e s m args below meth c s₁ B hml hv
  obtain ⟨rfl, hsz, hP, hK, hD0⟩ := hv
  have hx := B.exec
  have hb := B.bytes
  have hr := B.returns
  have hts := atoms_spec (ws := wsX10_hangPicks) B.pre
  have hown : s.vm.findClass RX10 = some m.cls := findClass_of_methodNamed B.named
  have hlocks := B.notSynchronized
  have hiX10 : ∀ w ∈ u_ws RX10 TX10 13, w ∈ wsX10_hangPicks := by decide +kernel
  subst hsz
  have hD := hD0.self (sz := s.heap.size)
  generalize hAe : va_A [(x0, .inr (10, [.ref xTape, .ref xReader, .ref xBag, .ref xBld, .ref xAng, .ref xSum, .ref xPik, .int 0, .ref xHan, .ref xIns, .ref xShr, .ref xSta, .ref xTur])), (xHan, .inr (3, [.int 0, .int 0, .int 0, .ref hH, .ref hR, .ref hT, .ref hM]))] s.heap.size = A at hD ⊢
  have hA : ∀ q : Nat, s.heap.size ≤ q → A q := fun q h => by rw [← hAe]; exact Or.inr h
  have hS : va_S A s.heap s.heap [] := va_S.rf
  have hP : va_P (dC, dI) vwCl [(x0, .inr (10, [.ref xTape, .ref xReader, .ref xBag, .ref xBld, .ref xAng, .ref xSum, .ref xPik, .int 0, .ref xHan, .ref xIns, .ref xShr, .ref xSta, .ref xTur])), (xHan, .inr (3, [.int 0, .int 0, .int 0, .ref hH, .ref hR, .ref hT, .ref hM]))] s.heap := hP
  have hl := lv_entry ([.ref x0]) (n := 2) (Nat.le_of_ble_eq_true rfl)
  rw [lg_entry_eq]
  generalize (lg_sl ([.ref x0]) ++ List.replicate (2 - (lg_sl ([.ref x0])).length) Slot.unset).toArray = ls at hl ⊢
  have hl : lv_has ls 2 [(0, .ref x0)] := hl
  refine lv_aload_n hx hb dX10_hangPicks_0 rfl (lv_at hl 0 rfl) ?_
  refine va_get (D := (dC, dI)) (ci := 10) (v := .ref xHan) (C := RX10) (T := TX10) (N := 13) hx hb hts hiX10 hown hK hP 0 rfl rfl 8 (by decide) (hts (.fieldLink RX10 61 "ScissorsTable" "hang" "LScissorsTable$Hang;") (by decide +kernel)) (fun _ h9 => h9) rfl dX10_hangPicks_1 ?_
  have hPc := hP.sub (ws' := [(xHan, .inr (3, [.int 0, .int 0, .int 0, .ref hH, .ref hR, .ref hT, .ref hM]))]) [1] rfl
  have hDc := hD.sub (ws' := [(xHan, .inr (3, [.int 0, .int 0, .int 0, .ref hH, .ref hR, .ref hT, .ref hM]))]) [1] (by decide) rfl
  have hFc := va_free (wc := [(xHan, .inr (3, [.int 0, .int 0, .int 0, .ref hH, .ref hR, .ref hT, .ref hM]))]) hD hS hA [1] rfl
  refine va_callv (va_runV (As := []) (rest := []) ⟨hx, hb, hml, hown, hts⟩ (c_X3_begin l dC dI cB cI cJ s.heap.size xHan hH hR hT hM) (cwV 0 hts gX10_hangPicks_X3_begin rfl rfl rfl (by decide +kernel) ⟨Nat.le_of_ble_eq_true rfl, Nat.le_of_ble_eq_true rfl⟩) ⟨fun a U g mk q => by obtain ⟨q0, q1, qP, qK, qD⟩ := q; exact ⟨q0, q1, qP, va_K.moved (u := U) (U := U.calling g mk a) (Vm.Alike.refl U.vm) qK, qD⟩, va_recv hK hP (ci := 3) (q0 := 1) rfl rfl, fun U hU hW => ⟨rfl, by rw [hU], by rw [hU]; exact hPc, va_K.moved hW.alike hK, hDc.weaken (fun _ _ _ _ => trivial)⟩⟩ rfl rfl hl.1 rfl (lv_room (Nat.le_of_ble_eq_true rfl)) dX10_hangPicks_4 ⟨Nat.le_of_ble_eq_true rfl, Nat.le_of_ble_eq_true rfl⟩) hS (fun q _ h => hFc q h) hFc (fun u t H1 locs ht hvm hw hB hz1 hk1 hS => ?_)
  obtain ⟨hP1, hK1, hD1⟩ := hB
  rw [ht] at hP1
  obtain ⟨hP, hD⟩ := va_join (wr := [(x0, .inr (10, [.ref xTape, .ref xReader, .ref xBag, .ref xBld, .ref xAng, .ref xSum, .ref xPik, .int 0, .ref xHan, .ref xIns, .ref xShr, .ref xSta, .ref xTur]))]) (w1 := [(xHan, .inr (3, [.int 0, .int 0, .int 0, .ref hH, .ref hR, .ref hT, .ref hM]))]) hP hD [1] [0] rfl rfl (by decide) (by decide) hk1 hFc hP1 hD1
  generalize H1 = H at hP hS ⊢
  have hP : va_P (dC, dI) vwCl [(x0, .inr (10, [.ref xTape, .ref xReader, .ref xBag, .ref xBld, .ref xAng, .ref xSum, .ref xPik, .int 0, .ref xHan, .ref xIns, .ref xShr, .ref xSta, .ref xTur])), (xHan, .inr (3, [.int 0, .int 0, .int 0, .ref hH, .ref hR, .ref hT, .ref hM]))] H := hP
  have hD : va_D A [(x0, .inr (10, [.ref xTape, .ref xReader, .ref xBag, .ref xBld, .ref xAng, .ref xSum, .ref xPik, .int 0, .ref xHan, .ref xIns, .ref xShr, .ref xSta, .ref xTur])), (xHan, .inr (3, [.int 0, .int 0, .int 0, .ref hH, .ref hR, .ref hT, .ref hM]))] := hD
  refine lv_iconst (v := 0) hx hb dX10_hangPicks_7 (by decide) ?_
  refine lv_istore_n (lv' := [(1, .int 0), (0, .ref x0)]) hx hb dX10_hangPicks_8 rfl hl (by decide) rfl (fun ls hl => ?_)
  refine lv_iload_n hx hb dX10_hangPicks_9 rfl (lv_at hl 0 rfl) ?_
  refine lv_aload_n hx hb dX10_hangPicks_10 rfl (lv_at hl 1 rfl) ?_
  refine va_get (D := (dC, dI)) (ci := 10) (v := .int 0) (C := RX10) (T := TX10) (N := 13) hx hb hts hiX10 hown hK hP 0 rfl rfl 7 (by decide) (hts (.fieldLink RX10 134 "ScissorsTable" "picked" "I") (by decide +kernel)) (fun _ h9 => h9) rfl dX10_hangPicks_11 ?_
  refine lv_icmp_ge (tgt := 35) hx hb dX10_hangPicks_14 (by decide) (fun _ => ?_) (fun c => absurd (by decide) c)
  have hP9 := hP.sub (ws' := [(x0, .inr (10, [.ref xTape, .ref xReader, .ref xBag, .ref xBld, .ref xAng, .ref xSum, .ref xPik, .int 0, .ref xHan, .ref xIns, .ref xShr, .ref xSta, .ref xTur])), (xHan, .inr (3, [.int 0, .int 0, .int 0, .ref hH, .ref hR, .ref hT, .ref hM]))]) [0, 1] rfl
  have hD9 := hD.sub (ws' := [(x0, .inr (10, [.ref xTape, .ref xReader, .ref xBag, .ref xBld, .ref xAng, .ref xSum, .ref xPik, .int 0, .ref xHan, .ref xIns, .ref xShr, .ref xSta, .ref xTur])), (xHan, .inr (3, [.int 0, .int 0, .int 0, .ref hH, .ref hR, .ref hT, .ref hM]))]) [0, 1] (by decide) rfl
  refine W.widen (k := 0) (n := 0) (Nat.le_of_ble_eq_true rfl) (Nat.le_of_ble_eq_true rfl) ?_
  exact W.vret hx hb hr (fun t ht hW => ⟨⟨(), rfl, trivial, by rw [ht]; exact hP9, va_K.moved hW.alike hK, hD9⟩, hS.F ht⟩) hS.2.2 dX10_hangPicks_35
set_option maxHeartbeats 4000000 in
set_option maxRecDepth 100000 in
theorem c_X10_rank (l : Launch) (dC : Nat → ClassId) (dI : Nat → Nat → Nat) (cB cI cJ : ClassId) (sz : Nat) (x0 xTape xReader xBag xBld xAng xSum xPik xHan xIns xShr xSta xTur hH hR hT hM : Nat) : Met l yX10_rank wsX10_rank ({ frames := 3, cells := 0, slots := 0, locals := 65 }) (va_Pc [.ref x0] (fun U => U.heap.size = sz ∧ va_P (dC, dI) vwCl [(x0, .inr (10, [.ref xTape, .ref xReader, .ref xBag, .ref xBld, .ref xAng, .ref xSum, .ref xPik, .int 0, .ref xHan, .ref xIns, .ref xShr, .ref xSta, .ref xTur])), (xHan, .inr (3, [.int 0, .int 0, .int 0, .ref hH, .ref hR, .ref hT, .ref hM]))] U.heap ∧ va_K (dC, dI) vwCl [(cB, .byte), (cI, .int), (cJ, .long)] U ∧ va_D (fun _ => True) [(x0, .inr (10, [.ref xTape, .ref xReader, .ref xBag, .ref xBld, .ref xAng, .ref xSum, .ref xPik, .int 0, .ref xHan, .ref xIns, .ref xShr, .ref xSta, .ref xTur])), (xHan, .inr (3, [.int 0, .int 0, .int 0, .ref hH, .ref hR, .ref hT, .ref hM]))])) (va_Qi (fun (r : Int32) (_ : Unit) => r = 0) (fun _ _ => True) (va_A [(x0, .inr (10, [.ref xTape, .ref xReader, .ref xBag, .ref xBld, .ref xAng, .ref xSum, .ref xPik, .int 0, .ref xHan, .ref xIns, .ref xShr, .ref xSta, .ref xTur])), (xHan, .inr (3, [.int 0, .int 0, .int 0, .ref hH, .ref hR, .ref hT, .ref hM]))] sz)) 0 0 (va_A [(x0, .inr (10, [.ref xTape, .ref xReader, .ref xBag, .ref xBld, .ref xAng, .ref xSum, .ref xPik, .int 0, .ref xHan, .ref xIns, .ref xShr, .ref xSta, .ref xTur])), (xHan, .inr (3, [.int 0, .int 0, .int 0, .ref hH, .ref hR, .ref hT, .ref hM]))] sz) := by
  refine Met.ofW (cc := cX10_rank) (maxL := 1) (ret := (some .int)) (by decide) rfl ?_
  intro p e s m args below meth c s₁ B hml hv
  obtain ⟨rfl, hsz, hP, hK, hD0⟩ := hv
  have hx := B.exec
  have hb := B.bytes
  have hr := B.returns
  have hts := atoms_spec (ws := wsX10_rank) B.pre
  have hown : s.vm.findClass RX10 = some m.cls := findClass_of_methodNamed B.named
  have hlocks := B.notSynchronized
  have hiX10 : ∀ w ∈ u_ws RX10 TX10 13, w ∈ wsX10_rank := by decide +kernel
  have hiX3 : ∀ w ∈ u_ws RX3 TX3 7, w ∈ wsX10_rank := by decide +kernel
  subst hsz
  have hD := hD0.self (sz := s.heap.size)
  generalize hAe : va_A [(x0, .inr (10, [.ref xTape, .ref xReader, .ref xBag, .ref xBld, .ref xAng, .ref xSum, .ref xPik, .int 0, .ref xHan, .ref xIns, .ref xShr, .ref xSta, .ref xTur])), (xHan, .inr (3, [.int 0, .int 0, .int 0, .ref hH, .ref hR, .ref hT, .ref hM]))] s.heap.size = A at hD ⊢
  have hA : ∀ q : Nat, s.heap.size ≤ q → A q := fun q h => by rw [← hAe]; exact Or.inr h
  have hS : va_S A s.heap s.heap [] := va_S.rf
  have hP : va_P (dC, dI) vwCl [(x0, .inr (10, [.ref xTape, .ref xReader, .ref xBag, .ref xBld, .ref xAng, .ref xSum, .ref xPik, .int 0, .ref xHan, .ref xIns, .ref xShr, .ref xSta, .ref xTur])), (xHan, .inr (3, [.int 0, .int 0, .int 0, .ref hH, .ref hR, .ref hT, .ref hM]))] s.heap := hP
  have hl := lv_entry ([.ref x0]) (n := 1) (Nat.le_of_ble_eq_true rfl)
  rw [lg_entry_eq]
  generalize (lg_sl ([.ref x0]) ++ List.replicate (1 - (lg_sl ([.ref x0])).length) Slot.unset).toArray = ls at hl ⊢
  have hl : lv_has ls 1 [(0, .ref x0)] := hl
  refine lv_aload_n hx hb dX10_rank_0 rfl (lv_at hl 0 rfl) ?_
  have hPc := hP.sub (ws' := [(x0, .inr (10, [.ref xTape, .ref xReader, .ref xBag, .ref xBld, .ref xAng, .ref xSum, .ref xPik, .int 0, .ref xHan, .ref xIns, .ref xShr, .ref xSta, .ref xTur])), (xHan, .inr (3, [.int 0, .int 0, .int 0, .ref hH, .ref hR, .ref hT, .ref hM]))]) [0, 1] rfl
  have hDc := hD.sub (ws' := [(x0, .inr (10, [.ref xTape, .ref xReader, .ref xBag, .ref xBld, .ref xAng, .ref xSum, .ref xPik, .int 0, .ref xHan, .ref xIns, .ref xShr, .ref xSta, .ref xTur])), (xHan, .inr (3, [.int 0, .int 0, .int 0, .ref hH, .ref hR, .ref hT, .ref hM]))]) [0, 1] (by decide) rfl
  have hFc := va_free (wc := [(x0, .inr (10, [.ref xTape, .ref xReader, .ref xBag, .ref xBld, .ref xAng, .ref xSum, .ref xPik, .int 0, .ref xHan, .ref xIns, .ref xShr, .ref xSta, .ref xTur])), (xHan, .inr (3, [.int 0, .int 0, .int 0, .ref hH, .ref hR, .ref hT, .ref hM]))]) hD hS hA [0, 1] rfl
  refine va_callv (va_runV (As := []) (rest := []) ⟨hx, hb, hml, hown, hts⟩ (c_X10_hangPicks l dC dI cB cI cJ s.heap.size x0 xTape xReader xBag xBld xAng xSum xPik xHan xIns xShr xSta xTur hH hR hT hM) (cwV 0 hts gX10_rank_X10_hangPicks rfl rfl rfl (by decide +kernel) ⟨Nat.le_of_ble_eq_true rfl, Nat.le_of_ble_eq_true rfl⟩) ⟨fun a U g mk q => by obtain ⟨q0, q1, qP, qK, qD⟩ := q; exact ⟨q0, q1, qP, va_K.moved (u := U) (U := U.calling g mk a) (Vm.Alike.refl U.vm) qK, qD⟩, va_recv hK hP (ci := 10) (q0 := 0) rfl rfl, fun U hU hW => ⟨rfl, by rw [hU], by rw [hU]; exact hPc, va_K.moved hW.alike hK, hDc.weaken (fun _ _ _ _ => trivial)⟩⟩ rfl rfl hl.1 rfl (lv_room (Nat.le_of_ble_eq_true rfl)) dX10_rank_1 ⟨Nat.le_of_ble_eq_true rfl, Nat.le_of_ble_eq_true rfl⟩) hS (fun q _ h => hFc q h) hFc (fun u t H1 locs ht hvm hw hB hz1 hk1 hS => ?_)
  obtain ⟨hP1, hK1, hD1⟩ := hB
  rw [ht] at hP1
  obtain ⟨hP, hD⟩ := va_join (wr := []) (w1 := [(x0, .inr (10, [.ref xTape, .ref xReader, .ref xBag, .ref xBld, .ref xAng, .ref xSum, .ref xPik, .int 0, .ref xHan, .ref xIns, .ref xShr, .ref xSta, .ref xTur])), (xHan, .inr (3, [.int 0, .int 0, .int 0, .ref hH, .ref hR, .ref hT, .ref hM]))]) hP hD [0, 1] [] rfl rfl (by decide) (by decide) hk1 hFc hP1 hD1
  generalize H1 = H at hP hS ⊢
  have hP : va_P (dC, dI) vwCl [(x0, .inr (10, [.ref xTape, .ref xReader, .ref xBag, .ref xBld, .ref xAng, .ref xSum, .ref xPik, .int 0, .ref xHan, .ref xIns, .ref xShr, .ref xSta, .ref xTur])), (xHan, .inr (3, [.int 0, .int 0, .int 0, .ref hH, .ref hR, .ref hT, .ref hM]))] H := hP
  have hD : va_D A [(x0, .inr (10, [.ref xTape, .ref xReader, .ref xBag, .ref xBld, .ref xAng, .ref xSum, .ref xPik, .int 0, .ref xHan, .ref xIns, .ref xShr, .ref xSta, .ref xTur])), (xHan, .inr (3, [.int 0, .int 0, .int 0, .ref hH, .ref hR, .ref hT, .ref hM]))] := hD
  refine lv_aload_n hx hb dX10_rank_4 rfl (lv_at hl 0 rfl) ?_
  refine va_get (D := (dC, dI)) (ci := 10) (v := .ref xHan) (C := RX10) (T := TX10) (N := 13) hx hb hts hiX10 hown hK hP 0 rfl rfl 8 (by decide) (hts (.fieldLink RX10 61 "ScissorsTable" "hang" "LScissorsTable$Hang;") (by decide +kernel)) (fun _ h9 => h9) rfl dX10_rank_5 ?_
  refine va_get (D := (dC, dI)) (ci := 3) (v := .int 0) (C := RX3) (T := TX3) (N := 7) hx hb hts hiX3 hown hK hP 1 rfl rfl 0 (by decide) (hts (.fieldLink RX10 313 "ScissorsTable$Hang" "rank" "I") (by decide +kernel)) (fun _ h9 => h9) rfl dX10_rank_8 ?_
  refine W.widen (k := 0) (n := 0) (Nat.le_of_ble_eq_true rfl) (Nat.le_of_ble_eq_true rfl) ?_
  exact W.iret (v := 0) hx hb hr (fun t ht hW => ⟨⟨0, (), rfl, rfl, trivial⟩, hS.F ht⟩) hS.2.2 dX10_rank_11
set_option maxHeartbeats 4000000 in
set_option maxRecDepth 100000 in
theorem c_X10_relation (l : Launch) (dC : Nat → ClassId) (dI : Nat → Nat → Nat) (cB cI cJ : ClassId) (sz : Nat) (x0 xTape xReader xBag xBld xAng xSum xPik xHan xIns xShr xSta xTur : Nat) (p0 : Int32) : Met l yX10_relation wsX10_relation ({ frames := 1, cells := 0, slots := 0, locals := 24 }) (va_Pc [.ref x0, .int p0] (fun U => U.heap.size = sz ∧ va_P (dC, dI) vwCl [(x0, .inr (10, [.ref xTape, .ref xReader, .ref xBag, .ref xBld, .ref xAng, .ref xSum, .ref xPik, .int 0, .ref xHan, .ref xIns, .ref xShr, .ref xSta, .ref xTur]))] U.heap ∧ va_K (dC, dI) vwCl [(cB, .byte), (cI, .int), (cJ, .long)] U ∧ va_D (fun _ => True) [(x0, .inr (10, [.ref xTape, .ref xReader, .ref xBag, .ref xBld, .ref xAng, .ref xSum, .ref xPik, .int 0, .ref xHan, .ref xIns, .ref xShr, .ref xSta, .ref xTur]))])) (va_Qi (fun (r : Int32) (_ : Unit) => r = (-1000000)) (fun _ _ => True) (va_A [(x0, .inr (10, [.ref xTape, .ref xReader, .ref xBag, .ref xBld, .ref xAng, .ref xSum, .ref xPik, .int 0, .ref xHan, .ref xIns, .ref xShr, .ref xSta, .ref xTur]))] sz)) 0 0 (va_A [(x0, .inr (10, [.ref xTape, .ref xReader, .ref xBag, .ref xBld, .ref xAng, .ref xSum, .ref xPik, .int 0, .ref xHan, .ref xIns, .ref xShr, .ref xSta, .ref xTur]))] sz) := by
  refine Met.ofW (cc := cX10_relation) (maxL := 2) (ret := (some .int)) (by decide) rfl ?_
  intro p e s m args below meth c s₁ B hml hv
  obtain ⟨rfl, hsz, hP, hK, hD0⟩ := hv
  have hx := B.exec
  have hb := B.bytes
  have hr := B.returns
  have hts := atoms_spec (ws := wsX10_relation) B.pre
  have hown : s.vm.findClass RX10 = some m.cls := findClass_of_methodNamed B.named
  have hlocks := B.notSynchronized
  have hiX10 : ∀ w ∈ u_ws RX10 TX10 13, w ∈ wsX10_relation := by decide +kernel
  subst hsz
  have hD := hD0.self (sz := s.heap.size)
  generalize hAe : va_A [(x0, .inr (10, [.ref xTape, .ref xReader, .ref xBag, .ref xBld, .ref xAng, .ref xSum, .ref xPik, .int 0, .ref xHan, .ref xIns, .ref xShr, .ref xSta, .ref xTur]))] s.heap.size = A at hD ⊢
  have hA : ∀ q : Nat, s.heap.size ≤ q → A q := fun q h => by rw [← hAe]; exact Or.inr h
  have hS : va_S A s.heap s.heap [] := va_S.rf
  have hP : va_P (dC, dI) vwCl [(x0, .inr (10, [.ref xTape, .ref xReader, .ref xBag, .ref xBld, .ref xAng, .ref xSum, .ref xPik, .int 0, .ref xHan, .ref xIns, .ref xShr, .ref xSta, .ref xTur]))] s.heap := hP
  have hl := lv_entry ([.ref x0, .int p0]) (n := 2) (Nat.le_of_ble_eq_true rfl)
  rw [lg_entry_eq]
  generalize (lg_sl ([.ref x0, .int p0]) ++ List.replicate (2 - (lg_sl ([.ref x0, .int p0])).length) Slot.unset).toArray = ls at hl ⊢
  have hl : lv_has ls 2 [(0, .ref x0), (1, .int p0)] := hl
  refine lv_iload_n hx hb dX10_relation_0 rfl (lv_at hl 1 rfl) ?_
  refine lv_if_lt (tgt := 12) hx hb dX10_relation_1 (by decide) (fun c_1 => ?_) (fun c_1 => ?_)
  · refine lv_ldc (v := (-1000000)) hx hb hown (hts (.constant RX10 140 (-1000000)) (by decide +kernel)) dX10_relation_12 ?_
    refine W.widen (k := 0) (n := 0) (Nat.le_of_ble_eq_true rfl) (Nat.le_of_ble_eq_true rfl) ?_
    exact W.iret (v := (-1000000)) hx hb hr (fun t ht hW => ⟨⟨(-1000000), (), rfl, rfl, trivial⟩, hS.F ht⟩) hS.2.2 dX10_relation_14
  · refine lv_iload_n hx hb dX10_relation_4 rfl (lv_at hl 1 rfl) ?_
    refine lv_aload_n hx hb dX10_relation_5 rfl (lv_at hl 0 rfl) ?_
    refine va_get (D := (dC, dI)) (ci := 10) (v := .int 0) (C := RX10) (T := TX10) (N := 13) hx hb hts hiX10 hown hK hP 0 rfl rfl 7 (by decide) (hts (.fieldLink RX10 134 "ScissorsTable" "picked" "I") (by decide +kernel)) (fun _ h9 => h9) rfl dX10_relation_6 ?_
    refine lv_icmp_lt (tgt := 15) hx hb dX10_relation_9 (by decide) (fun c_2 => ?_) (fun c_2 => ?_)
    · exact (by (try simp only [nk_lt, nk_le, nk_eq, nk_wd, nk_c0, nk_c1, nk_c2, nk_c3, nk_c4, nk_c5, nk_c6, nk_c15, nk_c16, nk_c24, nk_c47, nk_c48, nk_c600, nk_c1728, nk_m1, nk_l0, nk_l1, nk_l2, nk_l3, nk_l5, nk_l15, nk_l24, nk_l47] at c_1 c_2); exfalso; omega)
    · refine lv_ldc (v := (-1000000)) hx hb hown (hts (.constant RX10 140 (-1000000)) (by decide +kernel)) dX10_relation_12 ?_
      refine W.widen (k := 0) (n := 0) (Nat.le_of_ble_eq_true rfl) (Nat.le_of_ble_eq_true rfl) ?_
      exact W.iret (v := (-1000000)) hx hb hr (fun t ht hW => ⟨⟨(-1000000), (), rfl, rfl, trivial⟩, hS.F ht⟩) hS.2.2 dX10_relation_14
