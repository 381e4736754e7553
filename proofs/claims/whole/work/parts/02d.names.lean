theorem dX10_points_13 : decode cX10_points 13 = .ok (.aload_n 0, 1) := by decide +kernel
theorem dX10_points_14 : decode cX10_points 14 = .ok (.getfield 68, 3) := by decide +kernel
theorem dX10_points_17 : decode cX10_points 17 = .ok (.aload_n 0, 1) := by decide +kernel
theorem dX10_points_18 : decode cX10_points 18 = .ok (.getfield 28, 3) := by decide +kernel
theorem dX10_points_21 : decode cX10_points 21 = .ok (.getfield 158, 3) := by decide +kernel
theorem dX10_points_24 : decode cX10_points 24 = .ok (.iload_n 1, 1) := by decide +kernel
theorem dX10_points_25 : decode cX10_points 25 = .ok (.bipush 12, 2) := by decide +kernel
theorem dX10_points_27 : decode cX10_points 27 = .ok (.imul, 1) := by decide +kernel
theorem dX10_points_28 : decode cX10_points 28 = .ok (.invokevirtual 235, 3) := by decide +kernel
theorem dX10_points_31 : decode cX10_points 31 = .ok (.aload_n 0, 1) := by decide +kernel
theorem dX10_points_32 : decode cX10_points 32 = .ok (.getfield 68, 3) := by decide +kernel
theorem dX10_points_35 : decode cX10_points 35 = .ok (.invokevirtual 294, 3) := by decide +kernel
theorem dX10_points_38 : decode cX10_points 38 = .ok (.ireturn, 1) := by decide +kernel
set_option maxRecDepth 20000 in
theorem ggX10_fairest_X1_has : GoodIn wsX10_fairest wsX1_has := goodIn_r _ [10, 11, 74, 75, 76, 77, 78, 79] (by decide +kernel) (by decide +kernel)
set_option maxRecDepth 20000 in
theorem gX10_fairest_X1_has : GoodIn wsX10_fairest (wsV RX10 141 RX1 yX1_has wsX1_has) := goodIn_app (goodIn_of _ (by decide +kernel)) ggX10_fairest_X1_has
set_option maxRecDepth 20000 in
theorem ggX10_fairest_X4_load : GoodIn wsX10_fairest wsX4_load := goodIn_r _ [16, 17, 18, 19, 20, 21, 22, 23, 24, 25, 26, 27, 28, 29, 30, 31, 9, 32, 33, 34, 35, 15, 36, 37, 38, 39, 40, 41, 80, 81, 82, 83, 84, 85, 86] (by decide +kernel) (by decide +kernel)
set_option maxRecDepth 20000 in
theorem gX10_fairest_X4_load : GoodIn wsX10_fairest (wsV RX10 235 RX4 yX4_load wsX4_load) := goodIn_app (goodIn_of _ (by decide +kernel)) ggX10_fairest_X4_load
set_option maxRecDepth 20000 in
theorem ggX10_fairest_X4_findFairest : GoodIn wsX10_fairest wsX4_findFairest := goodIn_r _ [45, 46, 21, 22, 23, 47, 48, 49, 50, 51, 15, 52, 37, 27, 28, 19, 29, 24, 25, 26, 53, 54, 55, 56, 57, 58, 59, 60, 38, 39, 40, 41, 80, 81, 82, 83, 84, 85, 86] (by decide +kernel) (by decide +kernel)
set_option maxRecDepth 20000 in
theorem gX10_fairest_X4_findFairest : GoodIn wsX10_fairest (wsV RX10 297 RX4 yX4_findFairest wsX4_findFairest) := goodIn_app (goodIn_of _ (by decide +kernel)) ggX10_fairest_X4_findFairest
theorem dX10_fairest_0 : decode cX10_fairest 0 = .ok (.aload_n 0, 1) := by decide +kernel
theorem dX10_fairest_1 : decode cX10_fairest 1 = .ok (.getfield 28, 3) := by decide +kernel
theorem dX10_fairest_4 : decode cX10_fairest 4 = .ok (.iload_n 1, 1) := by decide +kernel
theorem dX10_fairest_5 : decode cX10_fairest 5 = .ok (.invokevirtual 141, 3) := by decide +kernel
theorem dX10_fairest_8 : decode cX10_fairest 8 = .ok (.ifCond .eq 12, 3) := by decide +kernel
theorem dX10_fairest_11 : decode cX10_fairest 11 = .ok (.iload_n 2, 1) := by decide +kernel
theorem dX10_fairest_12 : decode cX10_fairest 12 = .ok (.ifCond .lt 8, 3) := by decide +kernel
theorem dX10_fairest_15 : decode cX10_fairest 15 = .ok (.iload_n 2, 1) := by decide +kernel
theorem dX10_fairest_16 : decode cX10_fairest 16 = .ok (.iconst 3, 1) := by decide +kernel
theorem dX10_fairest_17 : decode cX10_fairest 17 = .ok (.if_icmp .le 6, 3) := by decide +kernel
theorem dX10_fairest_20 : decode cX10_fairest 20 = .ok (.ldc 140, 2) := by decide +kernel
theorem dX10_fairest_22 : decode cX10_fairest 22 = .ok (.ireturn, 1) := by decide +kernel
theorem dX10_fairest_23 : decode cX10_fairest 23 = .ok (.aload_n 0, 1) := by decide +kernel
theorem dX10_fairest_24 : decode cX10_fairest 24 = .ok (.getfield 68, 3) := by decide +kernel
theorem dX10_fairest_27 : decode cX10_fairest 27 = .ok (.aload_n 0, 1) := by decide +kernel
theorem dX10_fairest_28 : decode cX10_fairest 28 = .ok (.getfield 28, 3) := by decide +kernel
theorem dX10_fairest_31 : decode cX10_fairest 31 = .ok (.getfield 158, 3) := by decide +kernel
theorem dX10_fairest_34 : decode cX10_fairest 34 = .ok (.iload_n 1, 1) := by decide +kernel
theorem dX10_fairest_35 : decode cX10_fairest 35 = .ok (.bipush 12, 2) := by decide +kernel
theorem dX10_fairest_37 : decode cX10_fairest 37 = .ok (.imul, 1) := by decide +kernel
theorem dX10_fairest_38 : decode cX10_fairest 38 = .ok (.invokevirtual 235, 3) := by decide +kernel
theorem dX10_fairest_41 : decode cX10_fairest 41 = .ok (.aload_n 0, 1) := by decide +kernel
theorem dX10_fairest_42 : decode cX10_fairest 42 = .ok (.getfield 68, 3) := by decide +kernel
theorem dX10_fairest_45 : decode cX10_fairest 45 = .ok (.invokevirtual 297, 3) := by decide +kernel
theorem dX10_fairest_48 : decode cX10_fairest 48 = .ok (.ifCond .eq 15, 3) := by decide +kernel
theorem dX10_fairest_51 : decode cX10_fairest 51 = .ok (.aload_n 0, 1) := by decide +kernel
theorem dX10_fairest_52 : decode cX10_fairest 52 = .ok (.getfield 68, 3) := by decide +kernel
theorem dX10_fairest_55 : decode cX10_fairest 55 = .ok (.getfield 300, 3) := by decide +kernel
theorem dX10_fairest_58 : decode cX10_fairest 58 = .ok (.iload_n 2, 1) := by decide +kernel
theorem dX10_fairest_59 : decode cX10_fairest 59 = .ok (.iaload, 1) := by decide +kernel
theorem dX10_fairest_60 : decode cX10_fairest 60 = .ok (.goto 5, 3) := by decide +kernel
theorem dX10_fairest_63 : decode cX10_fairest 63 = .ok (.ldc 140, 2) := by decide +kernel
theorem dX10_fairest_65 : decode cX10_fairest 65 = .ok (.ireturn, 1) := by decide +kernel
set_option maxRecDepth 20000 in
theorem ggX10_cutsTo_X1_has : GoodIn wsX10_cutsTo wsX1_has := goodIn_r _ [8, 9, 97, 98, 99, 100, 101, 102] (by decide +kernel) (by decide +kernel)
set_option maxRecDepth 20000 in
theorem gX10_cutsTo_X1_has : GoodIn wsX10_cutsTo (wsV RX10 141 RX1 yX1_has wsX1_has) := goodIn_app (goodIn_of _ (by decide +kernel)) ggX10_cutsTo_X1_has
set_option maxRecDepth 20000 in
theorem ggX10_cutsTo_X6_countCuts : GoodIn wsX10_cutsTo wsX6_countCuts := goodIn_r _ [14, 15, 16, 17, 18, 19, 20, 21, 22, 23, 24, 25, 26, 27, 7, 28, 29, 30, 31, 13, 32, 33, 34, 35, 36, 37, 38, 39, 40, 41, 42, 43, 44, 45, 46, 47, 48, 49, 50, 51, 52, 53, 54, 55, 56, 57, 58, 59, 60, 61, 62, 63, 64, 65, 66, 67, 68, 69, 70, 71, 72, 73, 74, 75, 76, 77, 78, 79, 80, 81, 82, 83, 103, 104, 105, 106, 107, 108, 109, 110, 111, 112, 113] (by decide +kernel) (by decide +kernel)
set_option maxRecDepth 20000 in
theorem gX10_cutsTo_X6_countCuts : GoodIn wsX10_cutsTo (wsV RX10 303 RX6 yX6_countCuts wsX6_countCuts) := goodIn_app (goodIn_of _ (by decide +kernel)) ggX10_cutsTo_X6_countCuts
theorem dX10_cutsTo_0 : decode cX10_cutsTo 0 = .ok (.aload_n 0, 1) := by decide +kernel
theorem dX10_cutsTo_1 : decode cX10_cutsTo 1 = .ok (.getfield 28, 3) := by decide +kernel
theorem dX10_cutsTo_4 : decode cX10_cutsTo 4 = .ok (.iload_n 1, 1) := by decide +kernel
theorem dX10_cutsTo_5 : decode cX10_cutsTo 5 = .ok (.invokevirtual 141, 3) := by decide +kernel
theorem dX10_cutsTo_8 : decode cX10_cutsTo 8 = .ok (.ifCond .eq 8, 3) := by decide +kernel
theorem dX10_cutsTo_11 : decode cX10_cutsTo 11 = .ok (.iload_n 2, 1) := by decide +kernel
theorem dX10_cutsTo_12 : decode cX10_cutsTo 12 = .ok (.iconst 1, 1) := by decide +kernel
theorem dX10_cutsTo_13 : decode cX10_cutsTo 13 = .ok (.if_icmp .ge 5, 3) := by decide +kernel
theorem dX10_cutsTo_16 : decode cX10_cutsTo 16 = .ok (.iconst (-1), 1) := by decide +kernel
theorem dX10_cutsTo_17 : decode cX10_cutsTo 17 = .ok (.ireturn, 1) := by decide +kernel
theorem dX10_cutsTo_18 : decode cX10_cutsTo 18 = .ok (.aload_n 0, 1) := by decide +kernel
theorem dX10_cutsTo_19 : decode cX10_cutsTo 19 = .ok (.getfield 77, 3) := by decide +kernel
theorem dX10_cutsTo_22 : decode cX10_cutsTo 22 = .ok (.aload_n 0, 1) := by decide +kernel
theorem dX10_cutsTo_23 : decode cX10_cutsTo 23 = .ok (.getfield 28, 3) := by decide +kernel
theorem dX10_cutsTo_26 : decode cX10_cutsTo 26 = .ok (.getfield 158, 3) := by decide +kernel
theorem dX10_cutsTo_29 : decode cX10_cutsTo 29 = .ok (.iload_n 1, 1) := by decide +kernel
theorem dX10_cutsTo_30 : decode cX10_cutsTo 30 = .ok (.bipush 12, 2) := by decide +kernel
theorem dX10_cutsTo_32 : decode cX10_cutsTo 32 = .ok (.imul, 1) := by decide +kernel
theorem dX10_cutsTo_33 : decode cX10_cutsTo 33 = .ok (.iload_n 2, 1) := by decide +kernel
theorem dX10_cutsTo_34 : decode cX10_cutsTo 34 = .ok (.invokevirtual 303, 3) := by decide +kernel
theorem dX10_cutsTo_37 : decode cX10_cutsTo 37 = .ok (.ireturn, 1) := by decide +kernel
set_option maxRecDepth 20000 in
theorem ggX10_pick_X10_isEdge : GoodIn wsX10_pick wsX10_isEdge := goodIn_r _ [14, 3, 15, 16, 17, 18, 19, 20, 150, 151, 152, 153, 154, 155, 156, 157, 158, 159, 160, 161, 162, 163, 164, 165, 166, 167, 168] (by decide +kernel) (by decide +kernel)
set_option maxRecDepth 20000 in
theorem gX10_pick_X10_isEdge : GoodIn wsX10_pick (wsV RX10 161 RX10 yX10_isEdge wsX10_isEdge) := goodIn_app (goodIn_of _ (by decide +kernel)) ggX10_pick_X10_isEdge
set_option maxRecDepth 20000 in
theorem ggX10_pick_X0_measure : GoodIn wsX10_pick wsX0_measure := goodIn_r _ [25, 26, 27, 28, 29, 30, 31, 32, 33, 34, 35, 36, 37, 38, 39, 40, 41, 24, 42, 43, 44, 45, 46, 47, 48, 49, 50, 51, 52, 18, 53, 54, 13, 55, 56, 57, 58, 59, 60, 61, 62, 169, 170, 171, 172, 173, 174, 175, 176, 177, 178, 179, 180, 181] (by decide +kernel) (by decide +kernel)
set_option maxRecDepth 20000 in
theorem gX10_pick_X0_measure : GoodIn wsX10_pick (wsV RX10 165 RX0 yX0_measure wsX0_measure) := goodIn_app (goodIn_of _ (by decide +kernel)) ggX10_pick_X0_measure
set_option maxRecDepth 20000 in
theorem ggX10_pick_X0_split : GoodIn wsX10_pick wsX0_split := goodIn_r _ [66, 39, 38, 29, 30, 67, 68, 33, 69, 70, 71, 72, 73, 74, 24, 75, 76, 77, 78, 79, 50, 36, 37, 80, 81, 82, 83, 84, 85, 86, 87, 88, 89, 90, 91, 92, 93, 169, 170, 171, 172, 173, 174, 175, 176, 177, 178, 179, 180, 181] (by decide +kernel) (by decide +kernel)
set_option maxRecDepth 20000 in
theorem gX10_pick_X0_split : GoodIn wsX10_pick (wsV RX10 184 RX0 yX0_split wsX0_split) := goodIn_app (goodIn_of _ (by decide +kernel)) ggX10_pick_X0_split
set_option maxRecDepth 20000 in
theorem ggX10_pick_X8_add : GoodIn wsX10_pick wsX8_add := goodIn_r _ [98, 99, 100, 101, 102, 103, 97, 104, 105, 106, 107, 108, 109, 110, 111, 112, 113, 114, 115, 116, 117, 118, 119, 120, 121, 122, 123, 124, 125, 126, 71, 33, 72, 127, 128, 129, 130, 131, 132, 133, 134, 135, 136, 137, 138, 139, 140, 141, 142, 143, 144, 145, 146, 147, 148, 149, 182, 183, 184, 185] (by decide +kernel) (by decide +kernel)
set_option maxRecDepth 20000 in
theorem gX10_pick_X8_add : GoodIn wsX10_pick (wsV RX10 307 RX8 yX8_add wsX8_add) := goodIn_app (goodIn_of _ (by decide +kernel)) ggX10_pick_X8_add
theorem dX10_pick_0 : decode cX10_pick 0 = .ok (.aload_n 0, 1) := by decide +kernel
theorem dX10_pick_1 : decode cX10_pick 1 = .ok (.iload_n 1, 1) := by decide +kernel
theorem dX10_pick_2 : decode cX10_pick 2 = .ok (.iload_n 2, 1) := by decide +kernel
theorem dX10_pick_3 : decode cX10_pick 3 = .ok (.invokevirtual 161, 3) := by decide +kernel
theorem dX10_pick_6 : decode cX10_pick 6 = .ok (.ifCond .ne 5, 3) := by decide +kernel
theorem dX10_pick_9 : decode cX10_pick 9 = .ok (.iconst (-1), 1) := by decide +kernel
theorem dX10_pick_10 : decode cX10_pick 10 = .ok (.ireturn, 1) := by decide +kernel
theorem dX10_pick_11 : decode cX10_pick 11 = .ok (.aload_n 0, 1) := by decide +kernel
theorem dX10_pick_12 : decode cX10_pick 12 = .ok (.getfield 134, 3) := by decide +kernel
theorem dX10_pick_15 : decode cX10_pick 15 = .ok (.bipush 6, 2) := by decide +kernel
theorem dX10_pick_17 : decode cX10_pick 17 = .ok (.if_icmp .lt 6, 3) := by decide +kernel
theorem dX10_pick_20 : decode cX10_pick 20 = .ok (.bipush (-3), 2) := by decide +kernel
theorem dX10_pick_22 : decode cX10_pick 22 = .ok (.ireturn, 1) := by decide +kernel
theorem dX10_pick_23 : decode cX10_pick 23 = .ok (.aload_n 0, 1) := by decide +kernel
theorem dX10_pick_24 : decode cX10_pick 24 = .ok (.getfield 44, 3) := by decide +kernel
theorem dX10_pick_27 : decode cX10_pick 27 = .ok (.aload_n 0, 1) := by decide +kernel
theorem dX10_pick_28 : decode cX10_pick 28 = .ok (.getfield 28, 3) := by decide +kernel
theorem dX10_pick_31 : decode cX10_pick 31 = .ok (.getfield 158, 3) := by decide +kernel
theorem dX10_pick_34 : decode cX10_pick 34 = .ok (.iload_n 1, 1) := by decide +kernel
theorem dX10_pick_35 : decode cX10_pick 35 = .ok (.bipush 12, 2) := by decide +kernel
theorem dX10_pick_37 : decode cX10_pick 37 = .ok (.imul, 1) := by decide +kernel
theorem dX10_pick_38 : decode cX10_pick 38 = .ok (.iload_n 2, 1) := by decide +kernel
theorem dX10_pick_39 : decode cX10_pick 39 = .ok (.invokevirtual 165, 3) := by decide +kernel
theorem dX10_pick_42 : decode cX10_pick 42 = .ok (.aload_n 0, 1) := by decide +kernel
theorem dX10_pick_43 : decode cX10_pick 43 = .ok (.getfield 44, 3) := by decide +kernel
theorem dX10_pick_46 : decode cX10_pick 46 = .ok (.invokevirtual 184, 3) := by decide +kernel
theorem dX10_pick_49 : decode cX10_pick 49 = .ok (.iconst 0, 1) := by decide +kernel
theorem dX10_pick_50 : decode cX10_pick 50 = .ok (.istore_n 3, 1) := by decide +kernel
theorem dX10_pick_51 : decode cX10_pick 51 = .ok (.iload_n 3, 1) := by decide +kernel
theorem dX10_pick_52 : decode cX10_pick 52 = .ok (.aload_n 0, 1) := by decide +kernel
theorem dX10_pick_53 : decode cX10_pick 53 = .ok (.getfield 44, 3) := by decide +kernel
theorem dX10_pick_56 : decode cX10_pick 56 = .ok (.getfield 187, 3) := by decide +kernel
theorem dX10_pick_59 : decode cX10_pick 59 = .ok (.if_icmp .ge 45, 3) := by decide +kernel
theorem dX10_pick_62 : decode cX10_pick 62 = .ok (.aload_n 0, 1) := by decide +kernel
theorem dX10_pick_63 : decode cX10_pick 63 = .ok (.getfield 55, 3) := by decide +kernel
theorem dX10_pick_66 : decode cX10_pick 66 = .ok (.aload_n 0, 1) := by decide +kernel
theorem dX10_pick_67 : decode cX10_pick 67 = .ok (.getfield 44, 3) := by decide +kernel
theorem dX10_pick_70 : decode cX10_pick 70 = .ok (.getfield 172, 3) := by decide +kernel
theorem dX10_pick_73 : decode cX10_pick 73 = .ok (.aload_n 0, 1) := by decide +kernel
theorem dX10_pick_74 : decode cX10_pick 74 = .ok (.getfield 44, 3) := by decide +kernel
theorem dX10_pick_77 : decode cX10_pick 77 = .ok (.getfield 188, 3) := by decide +kernel
theorem dX10_pick_80 : decode cX10_pick 80 = .ok (.iload_n 3, 1) := by decide +kernel
theorem dX10_pick_81 : decode cX10_pick 81 = .ok (.iaload, 1) := by decide +kernel
theorem dX10_pick_82 : decode cX10_pick 82 = .ok (.aload_n 0, 1) := by decide +kernel
theorem dX10_pick_83 : decode cX10_pick 83 = .ok (.getfield 134, 3) := by decide +kernel
theorem dX10_pick_86 : decode cX10_pick 86 = .ok (.aload_n 0, 1) := by decide +kernel
theorem dX10_pick_87 : decode cX10_pick 87 = .ok (.getfield 44, 3) := by decide +kernel
theorem dX10_pick_90 : decode cX10_pick 90 = .ok (.getfield 191, 3) := by decide +kernel
theorem dX10_pick_93 : decode cX10_pick 93 = .ok (.iload_n 3, 1) := by decide +kernel
theorem dX10_pick_94 : decode cX10_pick 94 = .ok (.iaload, 1) := by decide +kernel
theorem dX10_pick_95 : decode cX10_pick 95 = .ok (.invokevirtual 307, 3) := by decide +kernel
theorem dX10_pick_98 : decode cX10_pick 98 = .ok (.iinc 3 1, 3) := by decide +kernel
theorem dX10_pick_101 : decode cX10_pick 101 = .ok (.goto (-50), 3) := by decide +kernel
theorem dX10_pick_104 : decode cX10_pick 104 = .ok (.aload_n 0, 1) := by decide +kernel
theorem dX10_pick_105 : decode cX10_pick 105 = .ok (.dup, 1) := by decide +kernel
theorem dX10_pick_106 : decode cX10_pick 106 = .ok (.getfield 134, 3) := by decide +kernel
theorem dX10_pick_109 : decode cX10_pick 109 = .ok (.iconst 1, 1) := by decide +kernel
theorem dX10_pick_110 : decode cX10_pick 110 = .ok (.iadd, 1) := by decide +kernel
theorem dX10_pick_111 : decode cX10_pick 111 = .ok (.putfield 134, 3) := by decide +kernel
theorem dX10_pick_114 : decode cX10_pick 114 = .ok (.aload_n 0, 1) := by decide +kernel
theorem dX10_pick_115 : decode cX10_pick 115 = .ok (.getfield 134, 3) := by decide +kernel
theorem dX10_pick_118 : decode cX10_pick 118 = .ok (.ireturn, 1) := by decide +kernel
set_option maxRecDepth 20000 in
theorem ggX10_unpick_X10_forgetPicks : GoodIn wsX10_unpick wsX10_forgetPicks := goodIn_r _ [6, 1, 7, 8, 9, 10, 11, 12, 13, 14, 15, 16, 17, 18, 19, 20, 21, 22, 23, 24, 25, 26, 27, 28, 29, 30] (by decide +kernel) (by decide +kernel)
set_option maxRecDepth 20000 in
theorem gX10_unpick_X10_forgetPicks : GoodIn wsX10_unpick (wsV RX10 114 RX10 yX10_forgetPicks wsX10_forgetPicks) := goodIn_app (goodIn_of _ (by decide +kernel)) ggX10_unpick_X10_forgetPicks
theorem dX10_unpick_0 : decode cX10_unpick 0 = .ok (.aload_n 0, 1) := by decide +kernel
theorem dX10_unpick_1 : decode cX10_unpick 1 = .ok (.getfield 134, 3) := by decide +kernel
theorem dX10_unpick_4 : decode cX10_unpick 4 = .ok (.istore_n 1, 1) := by decide +kernel
theorem dX10_unpick_5 : decode cX10_unpick 5 = .ok (.aload_n 0, 1) := by decide +kernel
theorem dX10_unpick_6 : decode cX10_unpick 6 = .ok (.invokevirtual 114, 3) := by decide +kernel
theorem dX10_unpick_9 : decode cX10_unpick 9 = .ok (.iload_n 1, 1) := by decide +kernel
theorem dX10_unpick_10 : decode cX10_unpick 10 = .ok (.ireturn, 1) := by decide +kernel
set_option maxRecDepth 20000 in
theorem ggX10_rank_X10_hangPicks : GoodIn wsX10_rank wsX10_hangPicks := goodIn_r _ [7, 1, 8, 9, 10, 11, 12, 13, 14, 15, 16, 17, 18, 19, 20, 21, 22, 23, 24, 25, 26, 27, 28, 29, 30, 31, 32, 33, 34, 35, 36, 37, 38, 39, 40, 41, 42, 43, 44, 45, 46, 47, 48, 49, 50, 6, 51, 52, 53, 54, 55, 56, 57, 58, 59, 60, 61, 62, 63, 64, 65, 66, 67, 68, 69, 70, 71, 72, 73, 74, 75, 76, 77, 78, 79] (by decide +kernel) (by decide +kernel)
set_option maxRecDepth 20000 in
theorem gX10_rank_X10_hangPicks : GoodIn wsX10_rank (wsV RX10 310 RX10 yX10_hangPicks wsX10_hangPicks) := goodIn_app (goodIn_of _ (by decide +kernel)) ggX10_rank_X10_hangPicks
theorem dX10_rank_0 : decode cX10_rank 0 = .ok (.aload_n 0, 1) := by decide +kernel
theorem dX10_rank_1 : decode cX10_rank 1 = .ok (.invokevirtual 310, 3) := by decide +kernel
theorem dX10_rank_4 : decode cX10_rank 4 = .ok (.aload_n 0, 1) := by decide +kernel
theorem dX10_rank_5 : decode cX10_rank 5 = .ok (.getfield 61, 3) := by decide +kernel
theorem dX10_rank_8 : decode cX10_rank 8 = .ok (.getfield 313, 3) := by decide +kernel
theorem dX10_rank_11 : decode cX10_rank 11 = .ok (.ireturn, 1) := by decide +kernel
set_option maxRecDepth 20000 in
theorem ggX10_relation_X10_hangPicks : GoodIn wsX10_relation wsX10_hangPicks := goodIn_r _ [8, 3, 1, 9, 10, 11, 12, 13, 14, 15, 16, 17, 18, 19, 20, 21, 22, 23, 24, 25, 26, 27, 28, 29, 30, 31, 32, 33, 34, 35, 36, 37, 38, 39, 40, 41, 42, 43, 44, 45, 46, 47, 48, 49, 50, 7, 51, 52, 53, 54, 55, 64, 65, 66, 67, 68, 69, 70, 71, 72, 73, 74, 75, 76, 77, 78, 79, 80, 81, 82, 83, 84, 85, 86, 87] (by decide +kernel) (by decide +kernel)
set_option maxRecDepth 20000 in
theorem gX10_relation_X10_hangPicks : GoodIn wsX10_relation (wsV RX10 310 RX10 yX10_hangPicks wsX10_hangPicks) := goodIn_app (goodIn_of _ (by decide +kernel)) ggX10_relation_X10_hangPicks
set_option maxRecDepth 20000 in
theorem ggX10_relation_X3_canTell : GoodIn wsX10_relation wsX3_canTell := goodIn_r _ [59, 45, 17, 77, 78, 79, 80, 81, 82, 83] (by decide +kernel) (by decide +kernel)
set_option maxRecDepth 20000 in
theorem gX10_relation_X3_canTell : GoodIn wsX10_relation (wsV RX10 316 RX3 yX3_canTell wsX3_canTell) := goodIn_app (goodIn_of _ (by decide +kernel)) ggX10_relation_X3_canTell
set_option maxRecDepth 20000 in
theorem ggX10_relation_X3_timesOf : GoodIn wsX10_relation wsX3_timesOf := goodIn_r _ [63, 45, 77, 78, 79, 80, 81, 82, 83] (by decide +kernel) (by decide +kernel)
set_option maxRecDepth 20000 in
theorem gX10_relation_X3_timesOf : GoodIn wsX10_relation (wsV RX10 319 RX3 yX3_timesOf wsX3_timesOf) := goodIn_app (goodIn_of _ (by decide +kernel)) ggX10_relation_X3_timesOf
theorem dX10_relation_0 : decode cX10_relation 0 = .ok (.iload_n 1, 1) := by decide +kernel
theorem dX10_relation_1 : decode cX10_relation 1 = .ok (.ifCond .lt 11, 3) := by decide +kernel
theorem dX10_relation_4 : decode cX10_relation 4 = .ok (.iload_n 1, 1) := by decide +kernel
theorem dX10_relation_5 : decode cX10_relation 5 = .ok (.aload_n 0, 1) := by decide +kernel
theorem dX10_relation_6 : decode cX10_relation 6 = .ok (.getfield 134, 3) := by decide +kernel
theorem dX10_relation_9 : decode cX10_relation 9 = .ok (.if_icmp .lt 6, 3) := by decide +kernel
theorem dX10_relation_12 : decode cX10_relation 12 = .ok (.ldc 140, 2) := by decide +kernel
theorem dX10_relation_14 : decode cX10_relation 14 = .ok (.ireturn, 1) := by decide +kernel
theorem dX10_relation_15 : decode cX10_relation 15 = .ok (.aload_n 0, 1) := by decide +kernel
theorem dX10_relation_16 : decode cX10_relation 16 = .ok (.invokevirtual 310, 3) := by decide +kernel
theorem dX10_relation_19 : decode cX10_relation 19 = .ok (.aload_n 0, 1) := by decide +kernel
theorem dX10_relation_20 : decode cX10_relation 20 = .ok (.getfield 61, 3) := by decide +kernel
theorem dX10_relation_23 : decode cX10_relation 23 = .ok (.invokevirtual 316, 3) := by decide +kernel
theorem dX10_relation_26 : decode cX10_relation 26 = .ok (.ifCond .eq 14, 3) := by decide +kernel
theorem dX10_relation_29 : decode cX10_relation 29 = .ok (.aload_n 0, 1) := by decide +kernel
theorem dX10_relation_30 : decode cX10_relation 30 = .ok (.getfield 61, 3) := by decide +kernel
theorem dX10_relation_33 : decode cX10_relation 33 = .ok (.iload_n 1, 1) := by decide +kernel
theorem dX10_relation_34 : decode cX10_relation 34 = .ok (.invokevirtual 319, 3) := by decide +kernel
theorem dX10_relation_37 : decode cX10_relation 37 = .ok (.goto 5, 3) := by decide +kernel
theorem dX10_relation_40 : decode cX10_relation 40 = .ok (.ldc 140, 2) := by decide +kernel
theorem dX10_relation_42 : decode cX10_relation 42 = .ok (.ireturn, 1) := by decide +kernel
set_option maxRecDepth 20000 in
theorem ggX10_rankOf_X10_isSetOfSolids : GoodIn wsX10_rankOf wsX10_isSetOfSolids := goodIn_r _ [6] (by decide +kernel) (by decide +kernel)
set_option maxRecDepth 20000 in
theorem gX10_rankOf_X10_isSetOfSolids : GoodIn wsX10_rankOf (va_wsS RX10 322 yX10_isSetOfSolids wsX10_isSetOfSolids) := goodIn_app (goodIn_of _ (by decide +kernel)) ggX10_rankOf_X10_isSetOfSolids
set_option maxRecDepth 20000 in
theorem ggX10_rankOf_X10_hangSolids : GoodIn wsX10_rankOf wsX10_hangSolids := goodIn_r _ [10, 1, 11, 12, 13, 14, 15, 16, 17, 18, 19, 20, 21, 22, 23, 24, 25, 26, 27, 28, 29, 30, 31, 32, 33, 34, 35, 36, 37, 38, 39, 40, 41, 42, 43, 44, 45, 46, 47, 48, 49, 50, 51, 52, 5, 53, 54, 55, 56, 57, 58, 59, 60, 61, 62, 63, 64, 65, 66, 67, 68, 69, 70, 71, 72, 73, 74, 75, 76, 77, 78, 79, 80, 81] (by decide +kernel) (by decide +kernel)
set_option maxRecDepth 20000 in
theorem gX10_rankOf_X10_hangSolids : GoodIn wsX10_rankOf (wsV RX10 325 RX10 yX10_hangSolids wsX10_hangSolids) := goodIn_app (goodIn_of _ (by decide +kernel)) ggX10_rankOf_X10_hangSolids
theorem dX10_rankOf_0 : decode cX10_rankOf 0 = .ok (.iload_n 1, 1) := by decide +kernel
theorem dX10_rankOf_1 : decode cX10_rankOf 1 = .ok (.invokestatic 322, 3) := by decide +kernel
theorem dX10_rankOf_4 : decode cX10_rankOf 4 = .ok (.ifCond .ne 5, 3) := by decide +kernel
theorem dX10_rankOf_7 : decode cX10_rankOf 7 = .ok (.iconst (-1), 1) := by decide +kernel
theorem dX10_rankOf_8 : decode cX10_rankOf 8 = .ok (.ireturn, 1) := by decide +kernel
theorem dX10_rankOf_9 : decode cX10_rankOf 9 = .ok (.aload_n 0, 1) := by decide +kernel
theorem dX10_rankOf_10 : decode cX10_rankOf 10 = .ok (.iload_n 1, 1) := by decide +kernel
theorem dX10_rankOf_11 : decode cX10_rankOf 11 = .ok (.invokevirtual 325, 3) := by decide +kernel
theorem dX10_rankOf_14 : decode cX10_rankOf 14 = .ok (.aload_n 0, 1) := by decide +kernel
theorem dX10_rankOf_15 : decode cX10_rankOf 15 = .ok (.getfield 61, 3) := by decide +kernel
theorem dX10_rankOf_18 : decode cX10_rankOf 18 = .ok (.getfield 313, 3) := by decide +kernel
theorem dX10_rankOf_21 : decode cX10_rankOf 21 = .ok (.ireturn, 1) := by decide +kernel
set_option maxRecDepth 20000 in
theorem ggX10_relationOf_X10_isSetOfSolids : GoodIn wsX10_relationOf wsX10_isSetOfSolids := goodIn_r _ [6] (by decide +kernel) (by decide +kernel)
set_option maxRecDepth 20000 in
theorem gX10_relationOf_X10_isSetOfSolids : GoodIn wsX10_relationOf (va_wsS RX10 322 yX10_isSetOfSolids wsX10_isSetOfSolids) := goodIn_app (goodIn_of _ (by decide +kernel)) ggX10_relationOf_X10_isSetOfSolids
set_option maxRecDepth 20000 in
theorem ggX10_relationOf_X10_isSolid : GoodIn wsX10_relationOf wsX10_isSolid := goodIn_r _ [9] (by decide +kernel) (by decide +kernel)
set_option maxRecDepth 20000 in
theorem gX10_relationOf_X10_isSolid : GoodIn wsX10_relationOf (va_wsS RX10 194 yX10_isSolid wsX10_isSolid) := goodIn_app (goodIn_of _ (by decide +kernel)) ggX10_relationOf_X10_isSolid
set_option maxRecDepth 20000 in
theorem ggX10_relationOf_X10_hangSolids : GoodIn wsX10_relationOf wsX10_hangSolids := goodIn_r _ [13, 2, 14, 15, 16, 17, 18, 19, 20, 21, 22, 23, 24, 25, 26, 27, 28, 29, 30, 31, 32, 33, 34, 35, 36, 37, 38, 39, 40, 41, 42, 43, 44, 45, 46, 47, 48, 49, 50, 51, 52, 53, 54, 55, 5, 56, 57, 58, 59, 60, 76, 77, 78, 79, 80, 81, 82, 83, 84, 85, 86, 87, 88, 89, 90, 91, 92, 93, 94, 95, 96, 97, 98, 99] (by decide +kernel) (by decide +kernel)
set_option maxRecDepth 20000 in
theorem gX10_relationOf_X10_hangSolids : GoodIn wsX10_relationOf (wsV RX10 325 RX10 yX10_hangSolids wsX10_hangSolids) := goodIn_app (goodIn_of _ (by decide +kernel)) ggX10_relationOf_X10_hangSolids
set_option maxRecDepth 20000 in
theorem ggX10_relationOf_X3_canTell : GoodIn wsX10_relationOf wsX3_canTell := goodIn_r _ [64, 50, 22, 89, 90, 91, 92, 93, 94, 95] (by decide +kernel) (by decide +kernel)
set_option maxRecDepth 20000 in
theorem gX10_relationOf_X3_canTell : GoodIn wsX10_relationOf (wsV RX10 316 RX3 yX3_canTell wsX3_canTell) := goodIn_app (goodIn_of _ (by decide +kernel)) ggX10_relationOf_X3_canTell
set_option maxRecDepth 20000 in
theorem ggX10_relationOf_J6_bitCount_0f7a4 : GoodIn wsX10_relationOf wsJ6_bitCount_0f7a4 := goodIn_r _ [68, 69, 70, 71] (by decide +kernel) (by decide +kernel)
set_option maxRecDepth 20000 in
theorem gX10_relationOf_J6_bitCount_0f7a4 : GoodIn wsX10_relationOf (va_wsS RX10 328 yJ6_bitCount_0f7a4 wsJ6_bitCount_0f7a4) := goodIn_app (goodIn_of _ (by decide +kernel)) ggX10_relationOf_J6_bitCount_0f7a4
set_option maxRecDepth 20000 in
theorem ggX10_relationOf_X3_timesOf : GoodIn wsX10_relationOf wsX3_timesOf := goodIn_r _ [75, 50, 89, 90, 91, 92, 93, 94, 95] (by decide +kernel) (by decide +kernel)
set_option maxRecDepth 20000 in
theorem gX10_relationOf_X3_timesOf : GoodIn wsX10_relationOf (wsV RX10 319 RX3 yX3_timesOf wsX3_timesOf) := goodIn_app (goodIn_of _ (by decide +kernel)) ggX10_relationOf_X3_timesOf
theorem dX10_relationOf_0 : decode cX10_relationOf 0 = .ok (.iload_n 1, 1) := by decide +kernel
theorem dX10_relationOf_1 : decode cX10_relationOf 1 = .ok (.invokestatic 322, 3) := by decide +kernel
theorem dX10_relationOf_4 : decode cX10_relationOf 4 = .ok (.ifCond .eq 10, 3) := by decide +kernel
theorem dX10_relationOf_7 : decode cX10_relationOf 7 = .ok (.iload_n 2, 1) := by decide +kernel
theorem dX10_relationOf_8 : decode cX10_relationOf 8 = .ok (.invokestatic 194, 3) := by decide +kernel
theorem dX10_relationOf_11 : decode cX10_relationOf 11 = .ok (.ifCond .ne 6, 3) := by decide +kernel
theorem dX10_relationOf_14 : decode cX10_relationOf 14 = .ok (.ldc 140, 2) := by decide +kernel
theorem dX10_relationOf_16 : decode cX10_relationOf 16 = .ok (.ireturn, 1) := by decide +kernel
theorem dX10_relationOf_17 : decode cX10_relationOf 17 = .ok (.aload_n 0, 1) := by decide +kernel
theorem dX10_relationOf_18 : decode cX10_relationOf 18 = .ok (.iload_n 1, 1) := by decide +kernel
theorem dX10_relationOf_19 : decode cX10_relationOf 19 = .ok (.invokevirtual 325, 3) := by decide +kernel
theorem dX10_relationOf_22 : decode cX10_relationOf 22 = .ok (.aload_n 0, 1) := by decide +kernel
theorem dX10_relationOf_23 : decode cX10_relationOf 23 = .ok (.getfield 61, 3) := by decide +kernel
theorem dX10_relationOf_26 : decode cX10_relationOf 26 = .ok (.invokevirtual 316, 3) := by decide +kernel
theorem dX10_relationOf_29 : decode cX10_relationOf 29 = .ok (.ifCond .ne 6, 3) := by decide +kernel
theorem dX10_relationOf_32 : decode cX10_relationOf 32 = .ok (.ldc 140, 2) := by decide +kernel
theorem dX10_relationOf_34 : decode cX10_relationOf 34 = .ok (.ireturn, 1) := by decide +kernel
theorem dX10_relationOf_35 : decode cX10_relationOf 35 = .ok (.iload_n 1, 1) := by decide +kernel
theorem dX10_relationOf_36 : decode cX10_relationOf 36 = .ok (.iload_n 2, 1) := by decide +kernel
theorem dX10_relationOf_37 : decode cX10_relationOf 37 = .ok (.ishr, 1) := by decide +kernel
theorem dX10_relationOf_38 : decode cX10_relationOf 38 = .ok (.iconst 1, 1) := by decide +kernel
theorem dX10_relationOf_39 : decode cX10_relationOf 39 = .ok (.iand, 1) := by decide +kernel
theorem dX10_relationOf_40 : decode cX10_relationOf 40 = .ok (.ifCond .ne 5, 3) := by decide +kernel
theorem dX10_relationOf_43 : decode cX10_relationOf 43 = .ok (.iconst 0, 1) := by decide +kernel
theorem dX10_relationOf_44 : decode cX10_relationOf 44 = .ok (.ireturn, 1) := by decide +kernel
theorem dX10_relationOf_45 : decode cX10_relationOf 45 = .ok (.aload_n 0, 1) := by decide +kernel
theorem dX10_relationOf_46 : decode cX10_relationOf 46 = .ok (.getfield 61, 3) := by decide +kernel
theorem dX10_relationOf_49 : decode cX10_relationOf 49 = .ok (.iload_n 1, 1) := by decide +kernel
theorem dX10_relationOf_50 : decode cX10_relationOf 50 = .ok (.iconst 1, 1) := by decide +kernel
theorem dX10_relationOf_51 : decode cX10_relationOf 51 = .ok (.iload_n 2, 1) := by decide +kernel
theorem dX10_relationOf_52 : decode cX10_relationOf 52 = .ok (.ishl, 1) := by decide +kernel
theorem dX10_relationOf_53 : decode cX10_relationOf 53 = .ok (.iconst 1, 1) := by decide +kernel
theorem dX10_relationOf_54 : decode cX10_relationOf 54 = .ok (.isub, 1) := by decide +kernel
theorem dX10_relationOf_55 : decode cX10_relationOf 55 = .ok (.iand, 1) := by decide +kernel
theorem dX10_relationOf_56 : decode cX10_relationOf 56 = .ok (.invokestatic 328, 3) := by decide +kernel
theorem dX10_relationOf_59 : decode cX10_relationOf 59 = .ok (.invokevirtual 319, 3) := by decide +kernel
theorem dX10_relationOf_62 : decode cX10_relationOf 62 = .ok (.ireturn, 1) := by decide +kernel
set_option maxRecDepth 20000 in
theorem ggX10_multiples_X10_isSolid : GoodIn wsX10_multiples wsX10_isSolid := goodIn_r _ [11] (by decide +kernel) (by decide +kernel)
set_option maxRecDepth 20000 in
theorem gX10_multiples_X10_isSolid : GoodIn wsX10_multiples (va_wsS RX10 194 yX10_isSolid wsX10_isSolid) := goodIn_app (goodIn_of _ (by decide +kernel)) ggX10_multiples_X10_isSolid
set_option maxRecDepth 20000 in
theorem ggX10_multiples_X8_rowOfTerm : GoodIn wsX10_multiples wsX8_rowOfTerm := goodIn_r _ [16, 17, 18, 19, 20, 15, 21, 22, 52, 53, 54, 55] (by decide +kernel) (by decide +kernel)
set_option maxRecDepth 20000 in
theorem gX10_multiples_X8_rowOfTerm : GoodIn wsX10_multiples (wsV RX10 209 RX8 yX8_rowOfTerm wsX8_rowOfTerm) := goodIn_app (goodIn_of _ (by decide +kernel)) ggX10_multiples_X8_rowOfTerm
set_option maxRecDepth 20000 in
theorem ggX10_multiples_X8_at : GoodIn wsX10_multiples wsX8_at := goodIn_r _ [21, 17, 22, 52, 53, 54, 55] (by decide +kernel) (by decide +kernel)
set_option maxRecDepth 20000 in
theorem gX10_multiples_X8_at : GoodIn wsX10_multiples (wsV RX10 219 RX8 yX8_at wsX8_at) := goodIn_app (goodIn_of _ (by decide +kernel)) ggX10_multiples_X8_at
set_option maxRecDepth 20000 in
theorem ggX10_multiples_X10_gcd : GoodIn wsX10_multiples wsX10_gcd := goodIn_r _ [26, 3, 4, 5, 6] (by decide +kernel) (by decide +kernel)
set_option maxRecDepth 20000 in
theorem gX10_multiples_X10_gcd : GoodIn wsX10_multiples (va_wsS RX10 335 yX10_gcd wsX10_gcd) := goodIn_app (goodIn_of _ (by decide +kernel)) ggX10_multiples_X10_gcd
set_option maxRecDepth 20000 in
theorem ggX10_multiples_X8_areEven : GoodIn wsX10_multiples wsX8_areEven := goodIn_r _ [30, 17, 18, 19, 20, 15, 21, 22, 52, 53, 54, 55] (by decide +kernel) (by decide +kernel)
set_option maxRecDepth 20000 in
theorem gX10_multiples_X8_areEven : GoodIn wsX10_multiples (wsV RX10 343 RX8 yX8_areEven wsX8_areEven) := goodIn_app (goodIn_of _ (by decide +kernel)) ggX10_multiples_X8_areEven
set_option maxRecDepth 20000 in
theorem ggX10_multiples_X1_sixOfSolid : GoodIn wsX10_multiples wsX1_sixOfSolid := goodIn_r _ [35, 36, 37, 38, 56, 57, 58, 59, 60, 61] (by decide +kernel) (by decide +kernel)
set_option maxRecDepth 20000 in
theorem gX10_multiples_X1_sixOfSolid : GoodIn wsX10_multiples (wsV RX10 197 RX1 yX1_sixOfSolid wsX1_sixOfSolid) := goodIn_app (goodIn_of _ (by decide +kernel)) ggX10_multiples_X1_sixOfSolid
theorem dX10_multiples_0 : decode cX10_multiples 0 = .ok (.iload_n 1, 1) := by decide +kernel
theorem dX10_multiples_1 : decode cX10_multiples 1 = .ok (.invokestatic 194, 3) := by decide +kernel
theorem dX10_multiples_4 : decode cX10_multiples 4 = .ok (.ifCond .eq 19, 3) := by decide +kernel
theorem dX10_multiples_7 : decode cX10_multiples 7 = .ok (.iload_n 2, 1) := by decide +kernel
theorem dX10_multiples_8 : decode cX10_multiples 8 = .ok (.invokestatic 194, 3) := by decide +kernel
theorem dX10_multiples_11 : decode cX10_multiples 11 = .ok (.ifCond .eq 12, 3) := by decide +kernel
theorem dX10_multiples_14 : decode cX10_multiples 14 = .ok (.iload_n 3, 1) := by decide +kernel
theorem dX10_multiples_15 : decode cX10_multiples 15 = .ok (.ifCond .lt 8, 3) := by decide +kernel
theorem dX10_multiples_18 : decode cX10_multiples 18 = .ok (.iload_n 3, 1) := by decide +kernel
theorem dX10_multiples_19 : decode cX10_multiples 19 = .ok (.iconst 2, 1) := by decide +kernel
theorem dX10_multiples_20 : decode cX10_multiples 20 = .ok (.if_icmp .le 7, 3) := by decide +kernel
theorem dX10_multiples_23 : decode cX10_multiples 23 = .ok (.ldc2_w 333, 3) := by decide +kernel
theorem dX10_multiples_26 : decode cX10_multiples 26 = .ok (.lreturn, 1) := by decide +kernel
theorem dX10_multiples_27 : decode cX10_multiples 27 = .ok (.aload_n 0, 1) := by decide +kernel
theorem dX10_multiples_28 : decode cX10_multiples 28 = .ok (.getfield 51, 3) := by decide +kernel
theorem dX10_multiples_31 : decode cX10_multiples 31 = .ok (.iload_n 1, 1) := by decide +kernel
theorem dX10_multiples_32 : decode cX10_multiples 32 = .ok (.iconst 0, 1) := by decide +kernel
theorem dX10_multiples_33 : decode cX10_multiples 33 = .ok (.invokevirtual 209, 3) := by decide +kernel
theorem dX10_multiples_36 : decode cX10_multiples 36 = .ok (.istore 4, 2) := by decide +kernel
theorem dX10_multiples_38 : decode cX10_multiples 38 = .ok (.iload 4, 2) := by decide +kernel
theorem dX10_multiples_40 : decode cX10_multiples 40 = .ok (.ifCond .ge 7, 3) := by decide +kernel
theorem dX10_multiples_43 : decode cX10_multiples 43 = .ok (.ldc2_w 333, 3) := by decide +kernel
theorem dX10_multiples_46 : decode cX10_multiples 46 = .ok (.lreturn, 1) := by decide +kernel
theorem dX10_multiples_47 : decode cX10_multiples 47 = .ok (.aload_n 0, 1) := by decide +kernel
theorem dX10_multiples_48 : decode cX10_multiples 48 = .ok (.getfield 51, 3) := by decide +kernel
theorem dX10_multiples_51 : decode cX10_multiples 51 = .ok (.iload 4, 2) := by decide +kernel
theorem dX10_multiples_53 : decode cX10_multiples 53 = .ok (.iload_n 1, 1) := by decide +kernel
theorem dX10_multiples_54 : decode cX10_multiples 54 = .ok (.invokevirtual 219, 3) := by decide +kernel
theorem dX10_multiples_57 : decode cX10_multiples 57 = .ok (.i2l, 1) := by decide +kernel
theorem dX10_multiples_58 : decode cX10_multiples 58 = .ok (.lstore 5, 2) := by decide +kernel
theorem dX10_multiples_60 : decode cX10_multiples 60 = .ok (.aload_n 0, 1) := by decide +kernel
theorem dX10_multiples_61 : decode cX10_multiples 61 = .ok (.getfield 51, 3) := by decide +kernel
theorem dX10_multiples_64 : decode cX10_multiples 64 = .ok (.iload 4, 2) := by decide +kernel
theorem dX10_multiples_66 : decode cX10_multiples 66 = .ok (.iload_n 2, 1) := by decide +kernel
theorem dX10_multiples_67 : decode cX10_multiples 67 = .ok (.invokevirtual 219, 3) := by decide +kernel
theorem dX10_multiples_70 : decode cX10_multiples 70 = .ok (.i2l, 1) := by decide +kernel
theorem dX10_multiples_71 : decode cX10_multiples 71 = .ok (.lstore 7, 2) := by decide +kernel
theorem dX10_multiples_73 : decode cX10_multiples 73 = .ok (.lload 5, 2) := by decide +kernel
theorem dX10_multiples_75 : decode cX10_multiples 75 = .ok (.lconst 0, 1) := by decide +kernel
theorem dX10_multiples_76 : decode cX10_multiples 76 = .ok (.lcmp, 1) := by decide +kernel
theorem dX10_multiples_77 : decode cX10_multiples 77 = .ok (.ifCond .ge 7, 3) := by decide +kernel
theorem dX10_multiples_80 : decode cX10_multiples 80 = .ok (.iconst 1, 1) := by decide +kernel
theorem dX10_multiples_81 : decode cX10_multiples 81 = .ok (.goto 4, 3) := by decide +kernel
theorem dX10_multiples_84 : decode cX10_multiples 84 = .ok (.iconst 0, 1) := by decide +kernel
theorem dX10_multiples_85 : decode cX10_multiples 85 = .ok (.lload 7, 2) := by decide +kernel
theorem dX10_multiples_87 : decode cX10_multiples 87 = .ok (.lconst 0, 1) := by decide +kernel
theorem dX10_multiples_88 : decode cX10_multiples 88 = .ok (.lcmp, 1) := by decide +kernel
theorem dX10_multiples_89 : decode cX10_multiples 89 = .ok (.ifCond .ge 7, 3) := by decide +kernel
theorem dX10_multiples_92 : decode cX10_multiples 92 = .ok (.iconst 1, 1) := by decide +kernel
theorem dX10_multiples_93 : decode cX10_multiples 93 = .ok (.goto 4, 3) := by decide +kernel
theorem dX10_multiples_96 : decode cX10_multiples 96 = .ok (.iconst 0, 1) := by decide +kernel
theorem dX10_multiples_97 : decode cX10_multiples 97 = .ok (.if_icmp .ne 10, 3) := by decide +kernel
theorem dX10_multiples_100 : decode cX10_multiples 100 = .ok (.lload 7, 2) := by decide +kernel
theorem dX10_multiples_102 : decode cX10_multiples 102 = .ok (.lconst 0, 1) := by decide +kernel
theorem dX10_multiples_103 : decode cX10_multiples 103 = .ok (.lcmp, 1) := by decide +kernel
theorem dX10_multiples_104 : decode cX10_multiples 104 = .ok (.ifCond .ne 7, 3) := by decide +kernel
theorem dX10_multiples_107 : decode cX10_multiples 107 = .ok (.ldc2_w 333, 3) := by decide +kernel
theorem dX10_multiples_110 : decode cX10_multiples 110 = .ok (.lreturn, 1) := by decide +kernel
theorem dX10_multiples_111 : decode cX10_multiples 111 = .ok (.lload 5, 2) := by decide +kernel
theorem dX10_multiples_113 : decode cX10_multiples 113 = .ok (.lload 7, 2) := by decide +kernel
theorem dX10_multiples_115 : decode cX10_multiples 115 = .ok (.invokestatic 335, 3) := by decide +kernel
theorem dX10_multiples_118 : decode cX10_multiples 118 = .ok (.lstore 9, 2) := by decide +kernel
theorem dX10_multiples_120 : decode cX10_multiples 120 = .ok (.lload 9, 2) := by decide +kernel
theorem dX10_multiples_122 : decode cX10_multiples 122 = .ok (.lconst 0, 1) := by decide +kernel
theorem dX10_multiples_123 : decode cX10_multiples 123 = .ok (.lcmp, 1) := by decide +kernel
theorem dX10_multiples_124 : decode cX10_multiples 124 = .ok (.ifCond .ne 7, 3) := by decide +kernel
theorem dX10_multiples_127 : decode cX10_multiples 127 = .ok (.lconst 0, 1) := by decide +kernel
theorem dX10_multiples_128 : decode cX10_multiples 128 = .ok (.goto 11, 3) := by decide +kernel
theorem dX10_multiples_131 : decode cX10_multiples 131 = .ok (.lload 7, 2) := by decide +kernel
theorem dX10_multiples_133 : decode cX10_multiples 133 = .ok (.invokestatic 339, 3) := by decide +kernel
theorem dX10_multiples_136 : decode cX10_multiples 136 = .ok (.lload 9, 2) := by decide +kernel
theorem dX10_multiples_138 : decode cX10_multiples 138 = .ok (.ldiv, 1) := by decide +kernel
theorem dX10_multiples_139 : decode cX10_multiples 139 = .ok (.lstore 11, 2) := by decide +kernel
theorem dX10_multiples_141 : decode cX10_multiples 141 = .ok (.lload 9, 2) := by decide +kernel
theorem dX10_multiples_143 : decode cX10_multiples 143 = .ok (.lconst 0, 1) := by decide +kernel
theorem dX10_multiples_144 : decode cX10_multiples 144 = .ok (.lcmp, 1) := by decide +kernel
theorem dX10_multiples_145 : decode cX10_multiples 145 = .ok (.ifCond .ne 7, 3) := by decide +kernel
theorem dX10_multiples_148 : decode cX10_multiples 148 = .ok (.lconst 0, 1) := by decide +kernel
theorem dX10_multiples_149 : decode cX10_multiples 149 = .ok (.goto 11, 3) := by decide +kernel
theorem dX10_multiples_152 : decode cX10_multiples 152 = .ok (.lload 5, 2) := by decide +kernel
theorem dX10_multiples_154 : decode cX10_multiples 154 = .ok (.invokestatic 339, 3) := by decide +kernel
theorem dX10_multiples_157 : decode cX10_multiples 157 = .ok (.lload 9, 2) := by decide +kernel
theorem dX10_multiples_159 : decode cX10_multiples 159 = .ok (.ldiv, 1) := by decide +kernel
theorem dX10_multiples_160 : decode cX10_multiples 160 = .ok (.lstore 13, 2) := by decide +kernel
theorem dX10_multiples_162 : decode cX10_multiples 162 = .ok (.aload_n 0, 1) := by decide +kernel
theorem dX10_multiples_163 : decode cX10_multiples 163 = .ok (.getfield 51, 3) := by decide +kernel
theorem dX10_multiples_166 : decode cX10_multiples 166 = .ok (.iload_n 1, 1) := by decide +kernel
theorem dX10_multiples_167 : decode cX10_multiples 167 = .ok (.lload 11, 2) := by decide +kernel
theorem dX10_multiples_169 : decode cX10_multiples 169 = .ok (.iload_n 2, 1) := by decide +kernel
theorem dX10_multiples_170 : decode cX10_multiples 170 = .ok (.lload 13, 2) := by decide +kernel
theorem dX10_multiples_172 : decode cX10_multiples 172 = .ok (.invokevirtual 343, 3) := by decide +kernel
theorem dX10_multiples_175 : decode cX10_multiples 175 = .ok (.ifCond .ne 7, 3) := by decide +kernel
theorem dX10_multiples_178 : decode cX10_multiples 178 = .ok (.ldc2_w 333, 3) := by decide +kernel
theorem dX10_multiples_181 : decode cX10_multiples 181 = .ok (.lreturn, 1) := by decide +kernel
theorem dX10_multiples_182 : decode cX10_multiples 182 = .ok (.iload_n 3, 1) := by decide +kernel
theorem dX10_multiples_183 : decode cX10_multiples 183 = .ok (.iconst 2, 1) := by decide +kernel
theorem dX10_multiples_184 : decode cX10_multiples 184 = .ok (.if_icmp .ne 29, 3) := by decide +kernel
theorem dX10_multiples_187 : decode cX10_multiples 187 = .ok (.lload 11, 2) := by decide +kernel
theorem dX10_multiples_189 : decode cX10_multiples 189 = .ok (.aload_n 0, 1) := by decide +kernel
theorem dX10_multiples_190 : decode cX10_multiples 190 = .ok (.getfield 28, 3) := by decide +kernel
theorem dX10_multiples_193 : decode cX10_multiples 193 = .ok (.iload_n 1, 1) := by decide +kernel
theorem dX10_multiples_194 : decode cX10_multiples 194 = .ok (.invokevirtual 197, 3) := by decide +kernel
theorem dX10_multiples_197 : decode cX10_multiples 197 = .ok (.i2l, 1) := by decide +kernel
theorem dX10_multiples_198 : decode cX10_multiples 198 = .ok (.lmul, 1) := by decide +kernel
theorem dX10_multiples_199 : decode cX10_multiples 199 = .ok (.lload 13, 2) := by decide +kernel
theorem dX10_multiples_201 : decode cX10_multiples 201 = .ok (.aload_n 0, 1) := by decide +kernel
theorem dX10_multiples_202 : decode cX10_multiples 202 = .ok (.getfield 28, 3) := by decide +kernel
theorem dX10_multiples_205 : decode cX10_multiples 205 = .ok (.iload_n 2, 1) := by decide +kernel
theorem dX10_multiples_206 : decode cX10_multiples 206 = .ok (.invokevirtual 197, 3) := by decide +kernel
theorem dX10_multiples_209 : decode cX10_multiples 209 = .ok (.i2l, 1) := by decide +kernel
theorem dX10_multiples_210 : decode cX10_multiples 210 = .ok (.lmul, 1) := by decide +kernel
theorem dX10_multiples_211 : decode cX10_multiples 211 = .ok (.lsub, 1) := by decide +kernel
theorem dX10_multiples_212 : decode cX10_multiples 212 = .ok (.lreturn, 1) := by decide +kernel
theorem dX10_multiples_213 : decode cX10_multiples 213 = .ok (.iload_n 3, 1) := by decide +kernel
theorem dX10_multiples_214 : decode cX10_multiples 214 = .ok (.ifCond .ne 8, 3) := by decide +kernel
theorem dX10_multiples_217 : decode cX10_multiples 217 = .ok (.lload 11, 2) := by decide +kernel
theorem dX10_multiples_219 : decode cX10_multiples 219 = .ok (.goto 5, 3) := by decide +kernel
theorem dX10_multiples_222 : decode cX10_multiples 222 = .ok (.lload 13, 2) := by decide +kernel
theorem dX10_multiples_224 : decode cX10_multiples 224 = .ok (.lreturn, 1) := by decide +kernel
set_option maxRecDepth 20000 in
theorem ggX10_plan_X7_areSides : GoodIn wsX10_plan wsX7_areSides := goodIn_r _ [6, 7, 8, 5, 9] (by decide +kernel) (by decide +kernel)
set_option maxRecDepth 20000 in
theorem gX10_plan_X7_areSides : GoodIn wsX10_plan (va_wsS RX10 347 yX7_areSides wsX7_areSides) := goodIn_app (goodIn_of _ (by decide +kernel)) ggX10_plan_X7_areSides
set_option maxRecDepth 20000 in
theorem ggX10_plan_X7_search : GoodIn wsX10_plan wsX7_search := goodIn_r _ [13, 14, 15, 16, 17, 18, 5, 19, 20, 21, 22, 23, 24, 25, 26, 27, 28, 29, 30, 31, 32, 33, 34, 35, 36, 37, 58, 59, 60, 61, 62, 63, 64, 65, 66, 67] (by decide +kernel) (by decide +kernel)
set_option maxRecDepth 20000 in
theorem gX10_plan_X7_search : GoodIn wsX10_plan (wsV RX10 350 RX7 yX7_search wsX7_search) := goodIn_app (goodIn_of _ (by decide +kernel)) ggX10_plan_X7_search
set_option maxRecDepth 20000 in
theorem ggX10_plan_X7_keep : GoodIn wsX10_plan wsX7_keep := goodIn_r _ [41, 15, 33, 14, 42, 43, 44, 17, 18, 5, 19, 58, 59, 60, 61, 62, 63, 64, 65, 66, 67] (by decide +kernel) (by decide +kernel)
set_option maxRecDepth 20000 in
theorem gX10_plan_X7_keep : GoodIn wsX10_plan (wsV RX10 354 RX7 yX7_keep wsX7_keep) := goodIn_app (goodIn_of _ (by decide +kernel)) ggX10_plan_X7_keep
theorem dX10_plan_0 : decode cX10_plan 0 = .ok (.iload_n 1, 1) := by decide +kernel
theorem dX10_plan_1 : decode cX10_plan 1 = .ok (.iload_n 2, 1) := by decide +kernel
theorem dX10_plan_2 : decode cX10_plan 2 = .ok (.iload_n 3, 1) := by decide +kernel
theorem dX10_plan_3 : decode cX10_plan 3 = .ok (.invokestatic 347, 3) := by decide +kernel
theorem dX10_plan_6 : decode cX10_plan 6 = .ok (.ifCond .eq 26, 3) := by decide +kernel
theorem dX10_plan_9 : decode cX10_plan 9 = .ok (.iload 4, 2) := by decide +kernel
theorem dX10_plan_11 : decode cX10_plan 11 = .ok (.iload 5, 2) := by decide +kernel
theorem dX10_plan_13 : decode cX10_plan 13 = .ok (.iload 6, 2) := by decide +kernel
theorem dX10_plan_15 : decode cX10_plan 15 = .ok (.invokestatic 347, 3) := by decide +kernel
theorem dX10_plan_18 : decode cX10_plan 18 = .ok (.ifCond .eq 14, 3) := by decide +kernel
theorem dX10_plan_21 : decode cX10_plan 21 = .ok (.iload_n 1, 1) := by decide +kernel
theorem dX10_plan_22 : decode cX10_plan 22 = .ok (.iload_n 2, 1) := by decide +kernel
theorem dX10_plan_23 : decode cX10_plan 23 = .ok (.imul, 1) := by decide +kernel
theorem dX10_plan_24 : decode cX10_plan 24 = .ok (.iload_n 3, 1) := by decide +kernel
theorem dX10_plan_25 : decode cX10_plan 25 = .ok (.imul, 1) := by decide +kernel
theorem dX10_plan_26 : decode cX10_plan 26 = .ok (.sipush 1728, 3) := by decide +kernel
theorem dX10_plan_29 : decode cX10_plan 29 = .ok (.if_icmp .le 6, 3) := by decide +kernel
theorem dX10_plan_32 : decode cX10_plan 32 = .ok (.bipush (-2), 2) := by decide +kernel
theorem dX10_plan_34 : decode cX10_plan 34 = .ok (.ireturn, 1) := by decide +kernel
theorem dX10_plan_35 : decode cX10_plan 35 = .ok (.iload_n 1, 1) := by decide +kernel
theorem dX10_plan_36 : decode cX10_plan 36 = .ok (.iload_n 2, 1) := by decide +kernel
theorem dX10_plan_37 : decode cX10_plan 37 = .ok (.imul, 1) := by decide +kernel
theorem dX10_plan_38 : decode cX10_plan 38 = .ok (.iload_n 3, 1) := by decide +kernel
theorem dX10_plan_39 : decode cX10_plan 39 = .ok (.imul, 1) := by decide +kernel
theorem dX10_plan_40 : decode cX10_plan 40 = .ok (.iload 4, 2) := by decide +kernel
theorem dX10_plan_42 : decode cX10_plan 42 = .ok (.iload 5, 2) := by decide +kernel
theorem dX10_plan_44 : decode cX10_plan 44 = .ok (.imul, 1) := by decide +kernel
theorem dX10_plan_45 : decode cX10_plan 45 = .ok (.iload 6, 2) := by decide +kernel
theorem dX10_plan_47 : decode cX10_plan 47 = .ok (.imul, 1) := by decide +kernel
theorem dX10_plan_48 : decode cX10_plan 48 = .ok (.if_icmp .eq 6, 3) := by decide +kernel
theorem dX10_plan_51 : decode cX10_plan 51 = .ok (.bipush (-3), 2) := by decide +kernel
theorem dX10_plan_53 : decode cX10_plan 53 = .ok (.ireturn, 1) := by decide +kernel
theorem dX10_plan_54 : decode cX10_plan 54 = .ok (.aload_n 0, 1) := by decide +kernel
theorem dX10_plan_55 : decode cX10_plan 55 = .ok (.getfield 84, 3) := by decide +kernel
theorem dX10_plan_58 : decode cX10_plan 58 = .ok (.iload_n 1, 1) := by decide +kernel
theorem dX10_plan_59 : decode cX10_plan 59 = .ok (.iload_n 2, 1) := by decide +kernel
theorem dX10_plan_60 : decode cX10_plan 60 = .ok (.iload_n 3, 1) := by decide +kernel
theorem dX10_plan_61 : decode cX10_plan 61 = .ok (.iload 4, 2) := by decide +kernel
theorem dX10_plan_63 : decode cX10_plan 63 = .ok (.iload 5, 2) := by decide +kernel
theorem dX10_plan_65 : decode cX10_plan 65 = .ok (.invokevirtual 350, 3) := by decide +kernel
theorem dX10_plan_68 : decode cX10_plan 68 = .ok (.ifCond .ne 5, 3) := by decide +kernel
theorem dX10_plan_71 : decode cX10_plan 71 = .ok (.iconst (-1), 1) := by decide +kernel
theorem dX10_plan_72 : decode cX10_plan 72 = .ok (.ireturn, 1) := by decide +kernel
theorem dX10_plan_73 : decode cX10_plan 73 = .ok (.aload_n 0, 1) := by decide +kernel
theorem dX10_plan_74 : decode cX10_plan 74 = .ok (.getfield 84, 3) := by decide +kernel
theorem dX10_plan_77 : decode cX10_plan 77 = .ok (.iload_n 1, 1) := by decide +kernel
theorem dX10_plan_78 : decode cX10_plan 78 = .ok (.iload_n 2, 1) := by decide +kernel
theorem dX10_plan_79 : decode cX10_plan 79 = .ok (.iload_n 3, 1) := by decide +kernel
theorem dX10_plan_80 : decode cX10_plan 80 = .ok (.iload 4, 2) := by decide +kernel
theorem dX10_plan_82 : decode cX10_plan 82 = .ok (.iload 5, 2) := by decide +kernel
theorem dX10_plan_84 : decode cX10_plan 84 = .ok (.invokevirtual 354, 3) := by decide +kernel
theorem dX10_plan_87 : decode cX10_plan 87 = .ok (.aload_n 0, 1) := by decide +kernel
theorem dX10_plan_88 : decode cX10_plan 88 = .ok (.getfield 84, 3) := by decide +kernel
theorem dX10_plan_91 : decode cX10_plan 91 = .ok (.getfield 137, 3) := by decide +kernel
theorem dX10_plan_94 : decode cX10_plan 94 = .ok (.ireturn, 1) := by decide +kernel
set_option maxRecDepth 20000 in
theorem ggX10_step_X7_labelOf : GoodIn wsX10_step wsX7_labelOf := goodIn_r _ [8, 9, 23, 24, 25, 26, 27, 28, 29, 30, 31, 32] (by decide +kernel) (by decide +kernel)
set_option maxRecDepth 20000 in
theorem gX10_step_X7_labelOf : GoodIn wsX10_step (wsV RX10 358 RX7 yX7_labelOf wsX7_labelOf) := goodIn_app (goodIn_of _ (by decide +kernel)) ggX10_step_X7_labelOf
theorem dX10_step_0 : decode cX10_step 0 = .ok (.iload_n 1, 1) := by decide +kernel
theorem dX10_step_1 : decode cX10_step 1 = .ok (.ifCond .lt 23, 3) := by decide +kernel
theorem dX10_step_4 : decode cX10_step 4 = .ok (.iload_n 1, 1) := by decide +kernel
theorem dX10_step_5 : decode cX10_step 5 = .ok (.aload_n 0, 1) := by decide +kernel
theorem dX10_step_6 : decode cX10_step 6 = .ok (.getfield 84, 3) := by decide +kernel
theorem dX10_step_9 : decode cX10_step 9 = .ok (.getfield 137, 3) := by decide +kernel
theorem dX10_step_12 : decode cX10_step 12 = .ok (.if_icmp .ge 12, 3) := by decide +kernel
theorem dX10_step_15 : decode cX10_step 15 = .ok (.iload_n 2, 1) := by decide +kernel
theorem dX10_step_16 : decode cX10_step 16 = .ok (.ifCond .lt 8, 3) := by decide +kernel
theorem dX10_step_19 : decode cX10_step 19 = .ok (.iload_n 2, 1) := by decide +kernel
theorem dX10_step_20 : decode cX10_step 20 = .ok (.iconst 2, 1) := by decide +kernel
theorem dX10_step_21 : decode cX10_step 21 = .ok (.if_icmp .le 6, 3) := by decide +kernel
theorem dX10_step_24 : decode cX10_step 24 = .ok (.ldc 140, 2) := by decide +kernel
theorem dX10_step_26 : decode cX10_step 26 = .ok (.ireturn, 1) := by decide +kernel
theorem dX10_step_27 : decode cX10_step 27 = .ok (.aload_n 0, 1) := by decide +kernel
theorem dX10_step_28 : decode cX10_step 28 = .ok (.getfield 84, 3) := by decide +kernel
theorem dX10_step_31 : decode cX10_step 31 = .ok (.iload_n 1, 1) := by decide +kernel
theorem dX10_step_32 : decode cX10_step 32 = .ok (.iload_n 2, 1) := by decide +kernel
theorem dX10_step_33 : decode cX10_step 33 = .ok (.invokevirtual 358, 3) := by decide +kernel
theorem dX10_step_36 : decode cX10_step 36 = .ok (.ireturn, 1) := by decide +kernel
set_option maxRecDepth 20000 in
theorem ggX10_side_X7_reaches : GoodIn wsX10_side wsX7_reaches := goodIn_r _ [8, 9, 43, 44, 45, 46, 47, 48, 49, 50, 51, 52] (by decide +kernel) (by decide +kernel)
set_option maxRecDepth 20000 in
theorem gX10_side_X7_reaches : GoodIn wsX10_side (wsV RX10 361 RX7 yX7_reaches wsX7_reaches) := goodIn_app (goodIn_of _ (by decide +kernel)) ggX10_side_X7_reaches
set_option maxRecDepth 20000 in
theorem ggX10_side_X7_carry : GoodIn wsX10_side wsX7_carry := goodIn_r _ [13, 14, 15, 16, 17, 18, 19, 20, 9, 21, 22, 23, 7, 24, 25, 26, 27, 28, 29, 43, 44, 45, 46, 47, 48, 49, 50, 51, 52] (by decide +kernel) (by decide +kernel)
set_option maxRecDepth 20000 in
theorem gX10_side_X7_carry : GoodIn wsX10_side (wsV RX10 364 RX7 yX7_carry wsX7_carry) := goodIn_app (goodIn_of _ (by decide +kernel)) ggX10_side_X7_carry
theorem dX10_side_0 : decode cX10_side 0 = .ok (.aload_n 0, 1) := by decide +kernel
theorem dX10_side_1 : decode cX10_side 1 = .ok (.getfield 84, 3) := by decide +kernel
theorem dX10_side_4 : decode cX10_side 4 = .ok (.iload_n 1, 1) := by decide +kernel
theorem dX10_side_5 : decode cX10_side 5 = .ok (.invokevirtual 361, 3) := by decide +kernel
theorem dX10_side_8 : decode cX10_side 8 = .ok (.ifCond .eq 12, 3) := by decide +kernel
theorem dX10_side_11 : decode cX10_side 11 = .ok (.iload_n 2, 1) := by decide +kernel
theorem dX10_side_12 : decode cX10_side 12 = .ok (.ifCond .lt 8, 3) := by decide +kernel
theorem dX10_side_15 : decode cX10_side 15 = .ok (.iload_n 2, 1) := by decide +kernel
theorem dX10_side_16 : decode cX10_side 16 = .ok (.iconst 2, 1) := by decide +kernel
theorem dX10_side_17 : decode cX10_side 17 = .ok (.if_icmp .le 6, 3) := by decide +kernel
theorem dX10_side_20 : decode cX10_side 20 = .ok (.ldc 140, 2) := by decide +kernel
theorem dX10_side_22 : decode cX10_side 22 = .ok (.ireturn, 1) := by decide +kernel
theorem dX10_side_23 : decode cX10_side 23 = .ok (.aload_n 0, 1) := by decide +kernel
theorem dX10_side_24 : decode cX10_side 24 = .ok (.getfield 84, 3) := by decide +kernel
theorem dX10_side_27 : decode cX10_side 27 = .ok (.iconst 0, 1) := by decide +kernel
theorem dX10_side_28 : decode cX10_side 28 = .ok (.iconst 0, 1) := by decide +kernel
theorem dX10_side_29 : decode cX10_side 29 = .ok (.iconst 0, 1) := by decide +kernel
theorem dX10_side_30 : decode cX10_side 30 = .ok (.iload_n 1, 1) := by decide +kernel
theorem dX10_side_31 : decode cX10_side 31 = .ok (.invokevirtual 364, 3) := by decide +kernel
theorem dX10_side_34 : decode cX10_side 34 = .ok (.aload_n 0, 1) := by decide +kernel
theorem dX10_side_35 : decode cX10_side 35 = .ok (.getfield 84, 3) := by decide +kernel
theorem dX10_side_38 : decode cX10_side 38 = .ok (.getfield 367, 3) := by decide +kernel
theorem dX10_side_41 : decode cX10_side 41 = .ok (.iload_n 2, 1) := by decide +kernel
theorem dX10_side_42 : decode cX10_side 42 = .ok (.iaload, 1) := by decide +kernel
theorem dX10_side_43 : decode cX10_side 43 = .ok (.ireturn, 1) := by decide +kernel
set_option maxRecDepth 20000 in
theorem ggX10_cube_X7_reaches : GoodIn wsX10_cube wsX7_reaches := goodIn_r _ [8, 9, 47, 48, 49, 50, 51, 52, 53, 54, 55, 56] (by decide +kernel) (by decide +kernel)
set_option maxRecDepth 20000 in
theorem gX10_cube_X7_reaches : GoodIn wsX10_cube (wsV RX10 361 RX7 yX7_reaches wsX7_reaches) := goodIn_app (goodIn_of _ (by decide +kernel)) ggX10_cube_X7_reaches
set_option maxRecDepth 20000 in
theorem ggX10_cube_X7_hasCube : GoodIn wsX10_cube wsX7_hasCube := goodIn_r _ [13, 14, 47, 48, 49, 50, 51, 52, 53, 54, 55, 56] (by decide +kernel) (by decide +kernel)
set_option maxRecDepth 20000 in
theorem gX10_cube_X7_hasCube : GoodIn wsX10_cube (wsV RX10 370 RX7 yX7_hasCube wsX7_hasCube) := goodIn_app (goodIn_of _ (by decide +kernel)) ggX10_cube_X7_hasCube
set_option maxRecDepth 20000 in
theorem ggX10_cube_X7_carry : GoodIn wsX10_cube wsX7_carry := goodIn_r _ [18, 14, 19, 20, 21, 22, 23, 24, 9, 25, 26, 27, 7, 28, 29, 30, 31, 32, 33, 47, 48, 49, 50, 51, 52, 53, 54, 55, 56] (by decide +kernel) (by decide +kernel)
set_option maxRecDepth 20000 in
theorem gX10_cube_X7_carry : GoodIn wsX10_cube (wsV RX10 364 RX7 yX7_carry wsX7_carry) := goodIn_app (goodIn_of _ (by decide +kernel)) ggX10_cube_X7_carry
theorem dX10_cube_0 : decode cX10_cube 0 = .ok (.aload_n 0, 1) := by decide +kernel
theorem dX10_cube_1 : decode cX10_cube 1 = .ok (.getfield 84, 3) := by decide +kernel
theorem dX10_cube_4 : decode cX10_cube 4 = .ok (.iload 4, 2) := by decide +kernel
theorem dX10_cube_6 : decode cX10_cube 6 = .ok (.invokevirtual 361, 3) := by decide +kernel
theorem dX10_cube_9 : decode cX10_cube 9 = .ok (.ifCond .eq 27, 3) := by decide +kernel
theorem dX10_cube_12 : decode cX10_cube 12 = .ok (.iload 5, 2) := by decide +kernel
theorem dX10_cube_14 : decode cX10_cube 14 = .ok (.ifCond .lt 22, 3) := by decide +kernel
theorem dX10_cube_17 : decode cX10_cube 17 = .ok (.iload 5, 2) := by decide +kernel
theorem dX10_cube_19 : decode cX10_cube 19 = .ok (.iconst 2, 1) := by decide +kernel
theorem dX10_cube_20 : decode cX10_cube 20 = .ok (.if_icmp .gt 16, 3) := by decide +kernel
theorem dX10_cube_23 : decode cX10_cube 23 = .ok (.aload_n 0, 1) := by decide +kernel
theorem dX10_cube_24 : decode cX10_cube 24 = .ok (.getfield 84, 3) := by decide +kernel
theorem dX10_cube_27 : decode cX10_cube 27 = .ok (.iload_n 1, 1) := by decide +kernel
theorem dX10_cube_28 : decode cX10_cube 28 = .ok (.iload_n 2, 1) := by decide +kernel
theorem dX10_cube_29 : decode cX10_cube 29 = .ok (.iload_n 3, 1) := by decide +kernel
theorem dX10_cube_30 : decode cX10_cube 30 = .ok (.invokevirtual 370, 3) := by decide +kernel
theorem dX10_cube_33 : decode cX10_cube 33 = .ok (.ifCond .ne 6, 3) := by decide +kernel
theorem dX10_cube_36 : decode cX10_cube 36 = .ok (.ldc 140, 2) := by decide +kernel
theorem dX10_cube_38 : decode cX10_cube 38 = .ok (.ireturn, 1) := by decide +kernel
theorem dX10_cube_39 : decode cX10_cube 39 = .ok (.aload_n 0, 1) := by decide +kernel
theorem dX10_cube_40 : decode cX10_cube 40 = .ok (.getfield 84, 3) := by decide +kernel
theorem dX10_cube_43 : decode cX10_cube 43 = .ok (.iload_n 1, 1) := by decide +kernel
theorem dX10_cube_44 : decode cX10_cube 44 = .ok (.iload_n 2, 1) := by decide +kernel
theorem dX10_cube_45 : decode cX10_cube 45 = .ok (.iload_n 3, 1) := by decide +kernel
theorem dX10_cube_46 : decode cX10_cube 46 = .ok (.iload 4, 2) := by decide +kernel
theorem dX10_cube_48 : decode cX10_cube 48 = .ok (.invokevirtual 364, 3) := by decide +kernel
theorem dX10_cube_51 : decode cX10_cube 51 = .ok (.aload_n 0, 1) := by decide +kernel
theorem dX10_cube_52 : decode cX10_cube 52 = .ok (.getfield 84, 3) := by decide +kernel
theorem dX10_cube_55 : decode cX10_cube 55 = .ok (.getfield 373, 3) := by decide +kernel
theorem dX10_cube_58 : decode cX10_cube 58 = .ok (.iload 5, 2) := by decide +kernel
theorem dX10_cube_60 : decode cX10_cube 60 = .ok (.iaload, 1) := by decide +kernel
theorem dX10_cube_61 : decode cX10_cube 61 = .ok (.ireturn, 1) := by decide +kernel
set_option maxRecDepth 20000 in
theorem ggX10_pieces_X7_reaches : GoodIn wsX10_pieces wsX7_reaches := goodIn_r _ [7, 8, 55, 56, 57, 58, 59, 60, 61, 62, 63, 64] (by decide +kernel) (by decide +kernel)
set_option maxRecDepth 20000 in
theorem gX10_pieces_X7_reaches : GoodIn wsX10_pieces (wsV RX10 361 RX7 yX7_reaches wsX7_reaches) := goodIn_app (goodIn_of _ (by decide +kernel)) ggX10_pieces_X7_reaches
set_option maxRecDepth 20000 in
theorem ggX10_pieces_X7_countPieces : GoodIn wsX10_pieces wsX7_countPieces := goodIn_r _ [12, 13, 14, 15, 16, 17, 18, 19, 20, 21, 22, 6, 23, 24, 25, 26, 27, 28, 8, 29, 30, 31, 32, 33, 34, 35, 36, 37, 38, 39, 40, 41, 55, 56, 57, 58, 59, 60, 61, 62, 63, 64] (by decide +kernel) (by decide +kernel)
set_option maxRecDepth 20000 in
theorem gX10_pieces_X7_countPieces : GoodIn wsX10_pieces (wsV RX10 376 RX7 yX7_countPieces wsX7_countPieces) := goodIn_app (goodIn_of _ (by decide +kernel)) ggX10_pieces_X7_countPieces
theorem dX10_pieces_0 : decode cX10_pieces 0 = .ok (.aload_n 0, 1) := by decide +kernel
theorem dX10_pieces_1 : decode cX10_pieces 1 = .ok (.getfield 84, 3) := by decide +kernel
theorem dX10_pieces_4 : decode cX10_pieces 4 = .ok (.iload_n 1, 1) := by decide +kernel
theorem dX10_pieces_5 : decode cX10_pieces 5 = .ok (.invokevirtual 361, 3) := by decide +kernel
theorem dX10_pieces_8 : decode cX10_pieces 8 = .ok (.ifCond .eq 14, 3) := by decide +kernel
theorem dX10_pieces_11 : decode cX10_pieces 11 = .ok (.aload_n 0, 1) := by decide +kernel
theorem dX10_pieces_12 : decode cX10_pieces 12 = .ok (.getfield 84, 3) := by decide +kernel
theorem dX10_pieces_15 : decode cX10_pieces 15 = .ok (.iload_n 1, 1) := by decide +kernel
theorem dX10_pieces_16 : decode cX10_pieces 16 = .ok (.invokevirtual 376, 3) := by decide +kernel
theorem dX10_pieces_19 : decode cX10_pieces 19 = .ok (.goto 5, 3) := by decide +kernel
theorem dX10_pieces_22 : decode cX10_pieces 22 = .ok (.ldc 140, 2) := by decide +kernel
theorem dX10_pieces_24 : decode cX10_pieces 24 = .ok (.ireturn, 1) := by decide +kernel
set_option maxRecDepth 20000 in
theorem ggX10_most_X8_greatest : GoodIn wsX10_most wsX8_greatest := goodIn_r _ [11, 12, 13, 14, 15, 16, 167, 168, 169, 170] (by decide +kernel) (by decide +kernel)
set_option maxRecDepth 20000 in
theorem gX10_most_X8_greatest : GoodIn wsX10_most (wsV RX10 379 RX8 yX8_greatest wsX8_greatest) := goodIn_app (goodIn_of _ (by decide +kernel)) ggX10_most_X8_greatest
set_option maxRecDepth 20000 in
theorem ggX10_most_X10_oddEdges : GoodIn wsX10_most wsX10_oddEdges := goodIn_r _ [21, 4, 5, 22, 23, 24, 25, 26, 27, 28, 29, 30, 31, 32, 33, 34, 35, 36, 37, 15, 38, 39, 40, 41, 42, 43, 44, 45, 46, 47, 48, 49, 50, 51, 52, 53, 54, 55, 56, 57, 58, 59, 20, 60, 61, 62, 63, 64, 65, 66, 67, 154, 155, 156, 157, 158, 159, 160, 161, 162, 163, 164, 165, 166, 171, 172, 173, 174, 175, 176, 177, 178, 179, 180, 181, 182, 183, 184, 185, 186, 187, 188, 189] (by decide +kernel) (by decide +kernel)
set_option maxRecDepth 20000 in
theorem gX10_most_X10_oddEdges : GoodIn wsX10_most (wsV RX10 203 RX10 yX10_oddEdges wsX10_oddEdges) := goodIn_app (goodIn_of _ (by decide +kernel)) ggX10_most_X10_oddEdges
set_option maxRecDepth 20000 in
theorem ggX10_most_X1_greatestSix : GoodIn wsX10_most wsX1_greatestSix := goodIn_r _ [71, 72, 73, 74, 14, 15, 16, 171, 172, 173, 174, 175, 176] (by decide +kernel) (by decide +kernel)
set_option maxRecDepth 20000 in
theorem gX10_most_X1_greatestSix : GoodIn wsX10_most (wsV RX10 383 RX1 yX1_greatestSix wsX1_greatestSix) := goodIn_app (goodIn_of _ (by decide +kernel)) ggX10_most_X1_greatestSix
set_option maxRecDepth 20000 in
theorem ggX10_most_X10_tetsWithPoints : GoodIn wsX10_most wsX10_tetsWithPoints := goodIn_r _ [78, 4, 5, 79, 24, 80, 81, 82, 83, 84, 85, 37, 15, 38, 86, 87, 88, 89, 90, 91, 92, 14, 16, 93, 56, 57, 58, 94, 95, 96, 97, 98, 99, 100, 101, 102, 103, 104, 105, 106, 107, 108, 109, 110, 111, 112, 113, 114, 115, 116, 154, 155, 156, 157, 158, 159, 160, 161, 162, 163, 164, 165, 166, 171, 172, 173, 174, 175, 176, 190, 191, 192, 193, 194, 195, 196] (by decide +kernel) (by decide +kernel)
set_option maxRecDepth 20000 in
theorem gX10_most_X10_tetsWithPoints : GoodIn wsX10_most (wsV RX10 386 RX10 yX10_tetsWithPoints wsX10_tetsWithPoints) := goodIn_app (goodIn_of _ (by decide +kernel)) ggX10_most_X10_tetsWithPoints
set_option maxRecDepth 20000 in
theorem ggX10_most_X10_solidsWithoutSum : GoodIn wsX10_most wsX10_solidsWithoutSum := goodIn_r _ [120, 1, 121, 122, 123, 10, 124, 12, 125, 126, 127, 128, 129, 154, 155, 156, 157, 158, 159, 160, 161, 162, 163, 164, 165, 166, 167, 168, 169, 170] (by decide +kernel) (by decide +kernel)
set_option maxRecDepth 20000 in
theorem gX10_most_X10_solidsWithoutSum : GoodIn wsX10_most (wsV RX10 389 RX10 yX10_solidsWithoutSum wsX10_solidsWithoutSum) := goodIn_app (goodIn_of _ (by decide +kernel)) ggX10_most_X10_solidsWithoutSum
set_option maxRecDepth 20000 in
theorem ggX10_most_X10_alikeCouples : GoodIn wsX10_most wsX10_alikeCouples := goodIn_r _ [133, 4, 134, 135, 136, 57, 137, 72, 138, 139, 140, 141, 20, 142, 1, 143, 144, 145, 146, 147, 148, 149, 73, 150, 151, 152, 10, 153, 12, 125, 126, 127, 128, 129, 154, 155, 156, 157, 158, 159, 160, 161, 162, 163, 164, 165, 166, 171, 172, 173, 174, 175, 176, 167, 168, 169, 170] (by decide +kernel) (by decide +kernel)
set_option maxRecDepth 20000 in
theorem gX10_most_X10_alikeCouples : GoodIn wsX10_most (wsV RX10 392 RX10 yX10_alikeCouples wsX10_alikeCouples) := goodIn_app (goodIn_of _ (by decide +kernel)) ggX10_most_X10_alikeCouples
theorem dX10_most_0 : decode cX10_most 0 = .ok (.iload_n 1, 1) := by decide +kernel
theorem dX10_most_1 : decode cX10_most 1 = .ok (.tableswitch 113 0 6 #[43, 58, 73, 90, 98, 103, 108], 43) := by decide +kernel
theorem dX10_most_44 : decode cX10_most 44 = .ok (.aload_n 0, 1) := by decide +kernel
theorem dX10_most_45 : decode cX10_most 45 = .ok (.getfield 51, 3) := by decide +kernel
theorem dX10_most_48 : decode cX10_most 48 = .ok (.aload_n 0, 1) := by decide +kernel
theorem dX10_most_49 : decode cX10_most 49 = .ok (.getfield 51, 3) := by decide +kernel
theorem dX10_most_52 : decode cX10_most 52 = .ok (.getfield 213, 3) := by decide +kernel
theorem dX10_most_55 : decode cX10_most 55 = .ok (.invokevirtual 379, 3) := by decide +kernel
theorem dX10_most_58 : decode cX10_most 58 = .ok (.ireturn, 1) := by decide +kernel
theorem dX10_most_59 : decode cX10_most 59 = .ok (.aload_n 0, 1) := by decide +kernel
theorem dX10_most_60 : decode cX10_most 60 = .ok (.getfield 51, 3) := by decide +kernel
theorem dX10_most_63 : decode cX10_most 63 = .ok (.aload_n 0, 1) := by decide +kernel
theorem dX10_most_64 : decode cX10_most 64 = .ok (.getfield 51, 3) := by decide +kernel
theorem dX10_most_67 : decode cX10_most 67 = .ok (.getfield 216, 3) := by decide +kernel
theorem dX10_most_70 : decode cX10_most 70 = .ok (.invokevirtual 379, 3) := by decide +kernel
theorem dX10_most_73 : decode cX10_most 73 = .ok (.ireturn, 1) := by decide +kernel
theorem dX10_most_74 : decode cX10_most 74 = .ok (.aload_n 0, 1) := by decide +kernel
theorem dX10_most_75 : decode cX10_most 75 = .ok (.getfield 28, 3) := by decide +kernel
theorem dX10_most_78 : decode cX10_most 78 = .ok (.getfield 108, 3) := by decide +kernel
theorem dX10_most_81 : decode cX10_most 81 = .ok (.bipush 6, 2) := by decide +kernel
theorem dX10_most_83 : decode cX10_most 83 = .ok (.imul, 1) := by decide +kernel
theorem dX10_most_84 : decode cX10_most 84 = .ok (.aload_n 0, 1) := by decide +kernel
theorem dX10_most_85 : decode cX10_most 85 = .ok (.iconst (-1), 1) := by decide +kernel
theorem dX10_most_86 : decode cX10_most 86 = .ok (.invokevirtual 203, 3) := by decide +kernel
theorem dX10_most_89 : decode cX10_most 89 = .ok (.isub, 1) := by decide +kernel
theorem dX10_most_90 : decode cX10_most 90 = .ok (.ireturn, 1) := by decide +kernel
theorem dX10_most_91 : decode cX10_most 91 = .ok (.aload_n 0, 1) := by decide +kernel
theorem dX10_most_92 : decode cX10_most 92 = .ok (.getfield 28, 3) := by decide +kernel
theorem dX10_most_95 : decode cX10_most 95 = .ok (.invokevirtual 383, 3) := by decide +kernel
theorem dX10_most_98 : decode cX10_most 98 = .ok (.ireturn, 1) := by decide +kernel
theorem dX10_most_99 : decode cX10_most 99 = .ok (.aload_n 0, 1) := by decide +kernel
theorem dX10_most_100 : decode cX10_most 100 = .ok (.invokevirtual 386, 3) := by decide +kernel
theorem dX10_most_103 : decode cX10_most 103 = .ok (.ireturn, 1) := by decide +kernel
theorem dX10_most_104 : decode cX10_most 104 = .ok (.aload_n 0, 1) := by decide +kernel
theorem dX10_most_105 : decode cX10_most 105 = .ok (.invokevirtual 389, 3) := by decide +kernel
theorem dX10_most_108 : decode cX10_most 108 = .ok (.ireturn, 1) := by decide +kernel
theorem dX10_most_109 : decode cX10_most 109 = .ok (.aload_n 0, 1) := by decide +kernel
theorem dX10_most_110 : decode cX10_most 110 = .ok (.invokevirtual 392, 3) := by decide +kernel
theorem dX10_most_113 : decode cX10_most 113 = .ok (.ireturn, 1) := by decide +kernel
theorem dX10_most_114 : decode cX10_most 114 = .ok (.ldc 140, 2) := by decide +kernel
theorem dX10_most_116 : decode cX10_most 116 = .ok (.ireturn, 1) := by decide +kernel
theorem dX10_isSolid_0 : decode cX10_isSolid 0 = .ok (.iload_n 0, 1) := by decide +kernel
theorem dX10_isSolid_1 : decode cX10_isSolid 1 = .ok (.ifCond .lt 12, 3) := by decide +kernel
theorem dX10_isSolid_4 : decode cX10_isSolid 4 = .ok (.iload_n 0, 1) := by decide +kernel
theorem dX10_isSolid_5 : decode cX10_isSolid 5 = .ok (.iconst 4, 1) := by decide +kernel
theorem dX10_isSolid_6 : decode cX10_isSolid 6 = .ok (.if_icmp .ge 7, 3) := by decide +kernel
theorem dX10_isSolid_9 : decode cX10_isSolid 9 = .ok (.iconst 1, 1) := by decide +kernel
theorem dX10_isSolid_10 : decode cX10_isSolid 10 = .ok (.goto 4, 3) := by decide +kernel
theorem dX10_isSolid_13 : decode cX10_isSolid 13 = .ok (.iconst 0, 1) := by decide +kernel
theorem dX10_isSolid_14 : decode cX10_isSolid 14 = .ok (.ireturn, 1) := by decide +kernel
theorem dX10_isSetOfSolids_0 : decode cX10_isSetOfSolids 0 = .ok (.iload_n 0, 1) := by decide +kernel
theorem dX10_isSetOfSolids_1 : decode cX10_isSetOfSolids 1 = .ok (.ifCond .lt 13, 3) := by decide +kernel
theorem dX10_isSetOfSolids_4 : decode cX10_isSetOfSolids 4 = .ok (.iload_n 0, 1) := by decide +kernel
theorem dX10_isSetOfSolids_5 : decode cX10_isSetOfSolids 5 = .ok (.bipush 16, 2) := by decide +kernel
theorem dX10_isSetOfSolids_7 : decode cX10_isSetOfSolids 7 = .ok (.if_icmp .ge 7, 3) := by decide +kernel
theorem dX10_isSetOfSolids_10 : decode cX10_isSetOfSolids 10 = .ok (.iconst 1, 1) := by decide +kernel
theorem dX10_isSetOfSolids_11 : decode cX10_isSetOfSolids 11 = .ok (.goto 4, 3) := by decide +kernel
theorem dX10_isSetOfSolids_14 : decode cX10_isSetOfSolids 14 = .ok (.iconst 0, 1) := by decide +kernel
theorem dX10_isSetOfSolids_15 : decode cX10_isSetOfSolids 15 = .ok (.ireturn, 1) := by decide +kernel
set_option maxRecDepth 20000 in
theorem ggX10_isEdge_X1_has : GoodIn wsX10_isEdge wsX1_has := goodIn_r _ [6, 7, 21, 22, 23, 24, 25, 26] (by decide +kernel) (by decide +kernel)
set_option maxRecDepth 20000 in
theorem gX10_isEdge_X1_has : GoodIn wsX10_isEdge (wsV RX10 141 RX1 yX1_has wsX1_has) := goodIn_app (goodIn_of _ (by decide +kernel)) ggX10_isEdge_X1_has
theorem dX10_isEdge_0 : decode cX10_isEdge 0 = .ok (.aload_n 0, 1) := by decide +kernel
theorem dX10_isEdge_1 : decode cX10_isEdge 1 = .ok (.getfield 28, 3) := by decide +kernel
theorem dX10_isEdge_4 : decode cX10_isEdge 4 = .ok (.iload_n 1, 1) := by decide +kernel
theorem dX10_isEdge_5 : decode cX10_isEdge 5 = .ok (.invokevirtual 141, 3) := by decide +kernel
theorem dX10_isEdge_8 : decode cX10_isEdge 8 = .ok (.ifCond .eq 17, 3) := by decide +kernel
theorem dX10_isEdge_11 : decode cX10_isEdge 11 = .ok (.iload_n 2, 1) := by decide +kernel
theorem dX10_isEdge_12 : decode cX10_isEdge 12 = .ok (.ifCond .lt 13, 3) := by decide +kernel
theorem dX10_isEdge_15 : decode cX10_isEdge 15 = .ok (.iload_n 2, 1) := by decide +kernel
theorem dX10_isEdge_16 : decode cX10_isEdge 16 = .ok (.bipush 6, 2) := by decide +kernel
theorem dX10_isEdge_18 : decode cX10_isEdge 18 = .ok (.if_icmp .ge 7, 3) := by decide +kernel
theorem dX10_isEdge_21 : decode cX10_isEdge 21 = .ok (.iconst 1, 1) := by decide +kernel
theorem dX10_isEdge_22 : decode cX10_isEdge 22 = .ok (.goto 4, 3) := by decide +kernel
theorem dX10_isEdge_25 : decode cX10_isEdge 25 = .ok (.iconst 0, 1) := by decide +kernel
theorem dX10_isEdge_26 : decode cX10_isEdge 26 = .ok (.ireturn, 1) := by decide +kernel
theorem dX10_gcd_0 : decode cX10_gcd 0 = .ok (.lload_n 0, 1) := by decide +kernel
theorem dX10_gcd_1 : decode cX10_gcd 1 = .ok (.invokestatic 339, 3) := by decide +kernel
theorem dX10_gcd_4 : decode cX10_gcd 4 = .ok (.lstore 4, 2) := by decide +kernel
theorem dX10_gcd_6 : decode cX10_gcd 6 = .ok (.lload_n 2, 1) := by decide +kernel
theorem dX10_gcd_7 : decode cX10_gcd 7 = .ok (.invokestatic 339, 3) := by decide +kernel
theorem dX10_gcd_10 : decode cX10_gcd 10 = .ok (.lstore 6, 2) := by decide +kernel
theorem dX10_gcd_12 : decode cX10_gcd 12 = .ok (.iconst 0, 1) := by decide +kernel
theorem dX10_gcd_13 : decode cX10_gcd 13 = .ok (.istore 8, 2) := by decide +kernel
theorem dX10_gcd_15 : decode cX10_gcd 15 = .ok (.iload 8, 2) := by decide +kernel
theorem dX10_gcd_17 : decode cX10_gcd 17 = .ok (.sipush 200, 3) := by decide +kernel
theorem dX10_gcd_20 : decode cX10_gcd 20 = .ok (.if_icmp .ge 31, 3) := by decide +kernel
theorem dX10_gcd_23 : decode cX10_gcd 23 = .ok (.lload 6, 2) := by decide +kernel
theorem dX10_gcd_25 : decode cX10_gcd 25 = .ok (.lconst 0, 1) := by decide +kernel
theorem dX10_gcd_26 : decode cX10_gcd 26 = .ok (.lcmp, 1) := by decide +kernel
theorem dX10_gcd_27 : decode cX10_gcd 27 = .ok (.ifCond .eq 24, 3) := by decide +kernel
theorem dX10_gcd_30 : decode cX10_gcd 30 = .ok (.lload 4, 2) := by decide +kernel
theorem dX10_gcd_32 : decode cX10_gcd 32 = .ok (.lload 6, 2) := by decide +kernel
theorem dX10_gcd_34 : decode cX10_gcd 34 = .ok (.lrem, 1) := by decide +kernel
theorem dX10_gcd_35 : decode cX10_gcd 35 = .ok (.lstore 9, 2) := by decide +kernel
theorem dX10_gcd_37 : decode cX10_gcd 37 = .ok (.lload 6, 2) := by decide +kernel
theorem dX10_gcd_39 : decode cX10_gcd 39 = .ok (.lstore 4, 2) := by decide +kernel
theorem dX10_gcd_41 : decode cX10_gcd 41 = .ok (.lload 9, 2) := by decide +kernel
theorem dX10_gcd_43 : decode cX10_gcd 43 = .ok (.lstore 6, 2) := by decide +kernel
theorem dX10_gcd_45 : decode cX10_gcd 45 = .ok (.iinc 8 1, 3) := by decide +kernel
theorem dX10_gcd_48 : decode cX10_gcd 48 = .ok (.goto (-33), 3) := by decide +kernel
theorem dX10_gcd_51 : decode cX10_gcd 51 = .ok (.lload 4, 2) := by decide +kernel
theorem dX10_gcd_53 : decode cX10_gcd 53 = .ok (.lreturn, 1) := by decide +kernel
set_option maxRecDepth 20000 in
theorem ggX10_forgetPicks_X8_clear : GoodIn wsX10_forgetPicks wsX8_clear := goodIn_r _ [7, 8, 22, 23, 24, 25] (by decide +kernel) (by decide +kernel)
set_option maxRecDepth 20000 in
theorem gX10_forgetPicks_X8_clear : GoodIn wsX10_forgetPicks (wsV RX10 111 RX8 yX8_clear wsX8_clear) := goodIn_app (goodIn_of _ (by decide +kernel)) ggX10_forgetPicks_X8_clear
theorem dX10_forgetPicks_0 : decode cX10_forgetPicks 0 = .ok (.aload_n 0, 1) := by decide +kernel
theorem dX10_forgetPicks_1 : decode cX10_forgetPicks 1 = .ok (.iconst 0, 1) := by decide +kernel
theorem dX10_forgetPicks_2 : decode cX10_forgetPicks 2 = .ok (.putfield 134, 3) := by decide +kernel
theorem dX10_forgetPicks_5 : decode cX10_forgetPicks 5 = .ok (.aload_n 0, 1) := by decide +kernel
theorem dX10_forgetPicks_6 : decode cX10_forgetPicks 6 = .ok (.getfield 55, 3) := by decide +kernel
theorem dX10_forgetPicks_9 : decode cX10_forgetPicks 9 = .ok (.invokevirtual 111, 3) := by decide +kernel
theorem dX10_forgetPicks_12 : decode cX10_forgetPicks 12 = .ok (.return_, 1) := by decide +kernel
set_option maxRecDepth 20000 in
theorem ggX10_oddEdges_X0_measure : GoodIn wsX10_oddEdges wsX0_measure := goodIn_r _ [11, 12, 13, 14, 15, 16, 17, 18, 19, 20, 21, 22, 23, 24, 25, 26, 27, 10, 28, 29, 30, 31, 32, 33, 34, 35, 36, 37, 38, 39, 40, 41, 42, 43, 44, 45, 46, 47, 48, 49, 50, 70, 71, 72, 73, 74, 75, 76, 77, 78, 79, 80, 81, 82] (by decide +kernel) (by decide +kernel)
set_option maxRecDepth 20000 in
theorem gX10_oddEdges_X0_measure : GoodIn wsX10_oddEdges (wsV RX10 165 RX0 yX0_measure wsX0_measure) := goodIn_app (goodIn_of _ (by decide +kernel)) ggX10_oddEdges_X0_measure
theorem dX10_oddEdges_0 : decode cX10_oddEdges 0 = .ok (.iconst 0, 1) := by decide +kernel
theorem dX10_oddEdges_1 : decode cX10_oddEdges 1 = .ok (.istore_n 2, 1) := by decide +kernel
theorem dX10_oddEdges_2 : decode cX10_oddEdges 2 = .ok (.iconst 0, 1) := by decide +kernel
theorem dX10_oddEdges_3 : decode cX10_oddEdges 3 = .ok (.istore_n 3, 1) := by decide +kernel
theorem dX10_oddEdges_4 : decode cX10_oddEdges 4 = .ok (.iload_n 3, 1) := by decide +kernel
theorem dX10_oddEdges_5 : decode cX10_oddEdges 5 = .ok (.aload_n 0, 1) := by decide +kernel
theorem dX10_oddEdges_6 : decode cX10_oddEdges 6 = .ok (.getfield 28, 3) := by decide +kernel
theorem dX10_oddEdges_9 : decode cX10_oddEdges 9 = .ok (.getfield 108, 3) := by decide +kernel
theorem dX10_oddEdges_12 : decode cX10_oddEdges 12 = .ok (.if_icmp .ge 82, 3) := by decide +kernel
theorem dX10_oddEdges_15 : decode cX10_oddEdges 15 = .ok (.iconst 0, 1) := by decide +kernel
theorem dX10_oddEdges_16 : decode cX10_oddEdges 16 = .ok (.istore 4, 2) := by decide +kernel
theorem dX10_oddEdges_18 : decode cX10_oddEdges 18 = .ok (.iload 4, 2) := by decide +kernel
theorem dX10_oddEdges_20 : decode cX10_oddEdges 20 = .ok (.bipush 6, 2) := by decide +kernel
theorem dX10_oddEdges_22 : decode cX10_oddEdges 22 = .ok (.if_icmp .ge 66, 3) := by decide +kernel
theorem dX10_oddEdges_25 : decode cX10_oddEdges 25 = .ok (.iload_n 1, 1) := by decide +kernel
theorem dX10_oddEdges_26 : decode cX10_oddEdges 26 = .ok (.iconst (-1), 1) := by decide +kernel
theorem dX10_oddEdges_27 : decode cX10_oddEdges 27 = .ok (.if_icmp .eq 16, 3) := by decide +kernel
theorem dX10_oddEdges_30 : decode cX10_oddEdges 30 = .ok (.aload_n 0, 1) := by decide +kernel
theorem dX10_oddEdges_31 : decode cX10_oddEdges 31 = .ok (.getfield 28, 3) := by decide +kernel
theorem dX10_oddEdges_34 : decode cX10_oddEdges 34 = .ok (.getfield 152, 3) := by decide +kernel
theorem dX10_oddEdges_37 : decode cX10_oddEdges 37 = .ok (.iload_n 3, 1) := by decide +kernel
theorem dX10_oddEdges_38 : decode cX10_oddEdges 38 = .ok (.iaload, 1) := by decide +kernel
theorem dX10_oddEdges_39 : decode cX10_oddEdges 39 = .ok (.iload_n 1, 1) := by decide +kernel
theorem dX10_oddEdges_40 : decode cX10_oddEdges 40 = .ok (.if_icmp .ne 48, 3) := by decide +kernel
theorem dX10_oddEdges_43 : decode cX10_oddEdges 43 = .ok (.aload_n 0, 1) := by decide +kernel
theorem dX10_oddEdges_44 : decode cX10_oddEdges 44 = .ok (.getfield 44, 3) := by decide +kernel
theorem dX10_oddEdges_47 : decode cX10_oddEdges 47 = .ok (.aload_n 0, 1) := by decide +kernel
theorem dX10_oddEdges_48 : decode cX10_oddEdges 48 = .ok (.getfield 28, 3) := by decide +kernel
theorem dX10_oddEdges_51 : decode cX10_oddEdges 51 = .ok (.getfield 158, 3) := by decide +kernel
theorem dX10_oddEdges_54 : decode cX10_oddEdges 54 = .ok (.iload_n 3, 1) := by decide +kernel
theorem dX10_oddEdges_55 : decode cX10_oddEdges 55 = .ok (.bipush 12, 2) := by decide +kernel
theorem dX10_oddEdges_57 : decode cX10_oddEdges 57 = .ok (.imul, 1) := by decide +kernel
theorem dX10_oddEdges_58 : decode cX10_oddEdges 58 = .ok (.iload 4, 2) := by decide +kernel
theorem dX10_oddEdges_60 : decode cX10_oddEdges 60 = .ok (.invokevirtual 165, 3) := by decide +kernel
theorem dX10_oddEdges_63 : decode cX10_oddEdges 63 = .ok (.iload_n 2, 1) := by decide +kernel
theorem dX10_oddEdges_64 : decode cX10_oddEdges 64 = .ok (.aload_n 0, 1) := by decide +kernel
theorem dX10_oddEdges_65 : decode cX10_oddEdges 65 = .ok (.getfield 44, 3) := by decide +kernel
theorem dX10_oddEdges_68 : decode cX10_oddEdges 68 = .ok (.getfield 181, 3) := by decide +kernel
theorem dX10_oddEdges_71 : decode cX10_oddEdges 71 = .ok (.iconst (-1), 1) := by decide +kernel
theorem dX10_oddEdges_72 : decode cX10_oddEdges 72 = .ok (.if_icmp .ne 7, 3) := by decide +kernel
theorem dX10_oddEdges_75 : decode cX10_oddEdges 75 = .ok (.iconst 1, 1) := by decide +kernel
theorem dX10_oddEdges_76 : decode cX10_oddEdges 76 = .ok (.goto 4, 3) := by decide +kernel
theorem dX10_oddEdges_79 : decode cX10_oddEdges 79 = .ok (.iconst 0, 1) := by decide +kernel
theorem dX10_oddEdges_80 : decode cX10_oddEdges 80 = .ok (.iadd, 1) := by decide +kernel
theorem dX10_oddEdges_81 : decode cX10_oddEdges 81 = .ok (.istore_n 2, 1) := by decide +kernel
theorem dX10_oddEdges_82 : decode cX10_oddEdges 82 = .ok (.iinc 4 1, 3) := by decide +kernel
theorem dX10_oddEdges_85 : decode cX10_oddEdges 85 = .ok (.goto (-67), 3) := by decide +kernel
theorem dX10_oddEdges_88 : decode cX10_oddEdges 88 = .ok (.iinc 3 1, 3) := by decide +kernel
theorem dX10_oddEdges_91 : decode cX10_oddEdges 91 = .ok (.goto (-87), 3) := by decide +kernel
theorem dX10_oddEdges_94 : decode cX10_oddEdges 94 = .ok (.iload_n 2, 1) := by decide +kernel
theorem dX10_oddEdges_95 : decode cX10_oddEdges 95 = .ok (.ireturn, 1) := by decide +kernel
set_option maxRecDepth 20000 in
theorem ggX10_hangPicks_X3_begin : GoodIn wsX10_hangPicks wsX3_begin := goodIn_r _ [8, 9, 10, 11, 64, 65, 66, 67, 68, 69, 70] (by decide +kernel) (by decide +kernel)
set_option maxRecDepth 20000 in
theorem gX10_hangPicks_X3_begin : GoodIn wsX10_hangPicks (wsV RX10 395 RX3 yX3_begin wsX3_begin) := goodIn_app (goodIn_of _ (by decide +kernel)) ggX10_hangPicks_X3_begin
set_option maxRecDepth 20000 in
theorem ggX10_hangPicks_X3_next : GoodIn wsX10_hangPicks wsX3_next := goodIn_r _ [15, 10, 9, 16, 17, 18, 11, 19, 20, 21, 7, 22, 23, 24, 25, 26, 27, 28, 29, 30, 31, 32, 33, 34, 35, 36, 37, 38, 39, 40, 41, 42, 43, 44, 45, 46, 47, 48, 49, 50, 64, 65, 66, 67, 68, 69, 70, 71, 72, 73, 74] (by decide +kernel) (by decide +kernel)
set_option maxRecDepth 20000 in
theorem gX10_hangPicks_X3_next : GoodIn wsX10_hangPicks (wsV RX10 396 RX3 yX3_next wsX3_next) := goodIn_app (goodIn_of _ (by decide +kernel)) ggX10_hangPicks_X3_next
theorem dX10_hangPicks_0 : decode cX10_hangPicks 0 = .ok (.aload_n 0, 1) := by decide +kernel
theorem dX10_hangPicks_1 : decode cX10_hangPicks 1 = .ok (.getfield 61, 3) := by decide +kernel
theorem dX10_hangPicks_4 : decode cX10_hangPicks 4 = .ok (.invokevirtual 395, 3) := by decide +kernel
theorem dX10_hangPicks_7 : decode cX10_hangPicks 7 = .ok (.iconst 0, 1) := by decide +kernel
theorem dX10_hangPicks_8 : decode cX10_hangPicks 8 = .ok (.istore_n 1, 1) := by decide +kernel
theorem dX10_hangPicks_9 : decode cX10_hangPicks 9 = .ok (.iload_n 1, 1) := by decide +kernel
theorem dX10_hangPicks_10 : decode cX10_hangPicks 10 = .ok (.aload_n 0, 1) := by decide +kernel
theorem dX10_hangPicks_11 : decode cX10_hangPicks 11 = .ok (.getfield 134, 3) := by decide +kernel
theorem dX10_hangPicks_14 : decode cX10_hangPicks 14 = .ok (.if_icmp .ge 21, 3) := by decide +kernel
theorem dX10_hangPicks_17 : decode cX10_hangPicks 17 = .ok (.aload_n 0, 1) := by decide +kernel
theorem dX10_hangPicks_18 : decode cX10_hangPicks 18 = .ok (.getfield 61, 3) := by decide +kernel
theorem dX10_hangPicks_21 : decode cX10_hangPicks 21 = .ok (.aload_n 0, 1) := by decide +kernel
theorem dX10_hangPicks_22 : decode cX10_hangPicks 22 = .ok (.getfield 55, 3) := by decide +kernel
theorem dX10_hangPicks_25 : decode cX10_hangPicks 25 = .ok (.iload_n 1, 1) := by decide +kernel
theorem dX10_hangPicks_26 : decode cX10_hangPicks 26 = .ok (.invokevirtual 396, 3) := by decide +kernel
theorem dX10_hangPicks_29 : decode cX10_hangPicks 29 = .ok (.iinc 1 1, 3) := by decide +kernel
theorem dX10_hangPicks_32 : decode cX10_hangPicks 32 = .ok (.goto (-23), 3) := by decide +kernel
theorem dX10_hangPicks_35 : decode cX10_hangPicks 35 = .ok (.return_, 1) := by decide +kernel
set_option maxRecDepth 20000 in
theorem ggX10_hangSolids_X3_begin : GoodIn wsX10_hangSolids wsX3_begin := goodIn_r _ [7, 8, 9, 10, 63, 64, 65, 66, 67, 68, 69] (by decide +kernel) (by decide +kernel)
set_option maxRecDepth 20000 in
theorem gX10_hangSolids_X3_begin : GoodIn wsX10_hangSolids (wsV RX10 395 RX3 yX3_begin wsX3_begin) := goodIn_app (goodIn_of _ (by decide +kernel)) ggX10_hangSolids_X3_begin
set_option maxRecDepth 20000 in
theorem ggX10_hangSolids_X3_next : GoodIn wsX10_hangSolids wsX3_next := goodIn_r _ [14, 9, 8, 15, 16, 17, 10, 18, 19, 20, 6, 21, 22, 23, 24, 25, 26, 27, 28, 29, 30, 31, 32, 33, 34, 35, 36, 37, 38, 39, 40, 41, 42, 43, 44, 45, 46, 47, 48, 49, 63, 64, 65, 66, 67, 68, 69, 70, 71, 72, 73] (by decide +kernel) (by decide +kernel)
set_option maxRecDepth 20000 in
theorem gX10_hangSolids_X3_next : GoodIn wsX10_hangSolids (wsV RX10 396 RX3 yX3_next wsX3_next) := goodIn_app (goodIn_of _ (by decide +kernel)) ggX10_hangSolids_X3_next
theorem dX10_hangSolids_0 : decode cX10_hangSolids 0 = .ok (.aload_n 0, 1) := by decide +kernel
theorem dX10_hangSolids_1 : decode cX10_hangSolids 1 = .ok (.getfield 61, 3) := by decide +kernel
theorem dX10_hangSolids_4 : decode cX10_hangSolids 4 = .ok (.invokevirtual 395, 3) := by decide +kernel
theorem dX10_hangSolids_7 : decode cX10_hangSolids 7 = .ok (.iconst 0, 1) := by decide +kernel
theorem dX10_hangSolids_8 : decode cX10_hangSolids 8 = .ok (.istore_n 2, 1) := by decide +kernel
theorem dX10_hangSolids_9 : decode cX10_hangSolids 9 = .ok (.iload_n 2, 1) := by decide +kernel
theorem dX10_hangSolids_10 : decode cX10_hangSolids 10 = .ok (.iconst 4, 1) := by decide +kernel
theorem dX10_hangSolids_11 : decode cX10_hangSolids 11 = .ok (.if_icmp .ge 30, 3) := by decide +kernel
theorem dX10_hangSolids_14 : decode cX10_hangSolids 14 = .ok (.iload_n 1, 1) := by decide +kernel
theorem dX10_hangSolids_15 : decode cX10_hangSolids 15 = .ok (.iload_n 2, 1) := by decide +kernel
theorem dX10_hangSolids_16 : decode cX10_hangSolids 16 = .ok (.ishr, 1) := by decide +kernel
theorem dX10_hangSolids_17 : decode cX10_hangSolids 17 = .ok (.iconst 1, 1) := by decide +kernel
theorem dX10_hangSolids_18 : decode cX10_hangSolids 18 = .ok (.iand, 1) := by decide +kernel
theorem dX10_hangSolids_19 : decode cX10_hangSolids 19 = .ok (.iconst 1, 1) := by decide +kernel
theorem dX10_hangSolids_20 : decode cX10_hangSolids 20 = .ok (.if_icmp .ne 15, 3) := by decide +kernel
theorem dX10_hangSolids_23 : decode cX10_hangSolids 23 = .ok (.aload_n 0, 1) := by decide +kernel
theorem dX10_hangSolids_24 : decode cX10_hangSolids 24 = .ok (.getfield 61, 3) := by decide +kernel
theorem dX10_hangSolids_27 : decode cX10_hangSolids 27 = .ok (.aload_n 0, 1) := by decide +kernel
theorem dX10_hangSolids_28 : decode cX10_hangSolids 28 = .ok (.getfield 51, 3) := by decide +kernel
theorem dX10_hangSolids_31 : decode cX10_hangSolids 31 = .ok (.iload_n 2, 1) := by decide +kernel
theorem dX10_hangSolids_32 : decode cX10_hangSolids 32 = .ok (.invokevirtual 396, 3) := by decide +kernel
theorem dX10_hangSolids_35 : decode cX10_hangSolids 35 = .ok (.iinc 2 1, 3) := by decide +kernel
theorem dX10_hangSolids_38 : decode cX10_hangSolids 38 = .ok (.goto (-29), 3) := by decide +kernel
theorem dX10_hangSolids_41 : decode cX10_hangSolids 41 = .ok (.return_, 1) := by decide +kernel
set_option maxRecDepth 20000 in
theorem ggX10_tetsWithPoints_X4_load : GoodIn wsX10_tetsWithPoints wsX4_load := goodIn_r _ [9, 10, 11, 12, 13, 14, 15, 16, 17, 18, 19, 20, 21, 22, 23, 24, 25, 26, 27, 28, 29, 8, 30, 31, 32, 33, 34, 35, 69, 70, 71, 72, 73, 74, 75] (by decide +kernel) (by decide +kernel)
set_option maxRecDepth 20000 in
theorem gX10_tetsWithPoints_X4_load : GoodIn wsX10_tetsWithPoints (wsV RX10 235 RX4 yX4_load wsX4_load) := goodIn_app (goodIn_of _ (by decide +kernel)) ggX10_tetsWithPoints_X4_load
set_option maxRecDepth 20000 in
theorem ggX10_tetsWithPoints_X4_countPoints : GoodIn wsX10_tetsWithPoints wsX4_countPoints := goodIn_r _ [39, 15, 16, 40, 41, 20, 21, 12, 22, 42, 43, 44, 8, 45, 31, 17, 18, 19, 46, 47, 48, 49, 69, 70, 71, 72, 73, 74, 75] (by decide +kernel) (by decide +kernel)
set_option maxRecDepth 20000 in
theorem gX10_tetsWithPoints_X4_countPoints : GoodIn wsX10_tetsWithPoints (wsV RX10 294 RX4 yX4_countPoints wsX4_countPoints) := goodIn_app (goodIn_of _ (by decide +kernel)) ggX10_tetsWithPoints_X4_countPoints
theorem dX10_tetsWithPoints_0 : decode cX10_tetsWithPoints 0 = .ok (.iconst 0, 1) := by decide +kernel
theorem dX10_tetsWithPoints_1 : decode cX10_tetsWithPoints 1 = .ok (.istore_n 1, 1) := by decide +kernel
theorem dX10_tetsWithPoints_2 : decode cX10_tetsWithPoints 2 = .ok (.iconst 0, 1) := by decide +kernel
theorem dX10_tetsWithPoints_3 : decode cX10_tetsWithPoints 3 = .ok (.istore_n 2, 1) := by decide +kernel
theorem dX10_tetsWithPoints_4 : decode cX10_tetsWithPoints 4 = .ok (.iload_n 2, 1) := by decide +kernel
theorem dX10_tetsWithPoints_5 : decode cX10_tetsWithPoints 5 = .ok (.aload_n 0, 1) := by decide +kernel
theorem dX10_tetsWithPoints_6 : decode cX10_tetsWithPoints 6 = .ok (.getfield 28, 3) := by decide +kernel
theorem dX10_tetsWithPoints_9 : decode cX10_tetsWithPoints 9 = .ok (.getfield 108, 3) := by decide +kernel
theorem dX10_tetsWithPoints_12 : decode cX10_tetsWithPoints 12 = .ok (.if_icmp .ge 46, 3) := by decide +kernel
theorem dX10_tetsWithPoints_15 : decode cX10_tetsWithPoints 15 = .ok (.aload_n 0, 1) := by decide +kernel
theorem dX10_tetsWithPoints_16 : decode cX10_tetsWithPoints 16 = .ok (.getfield 68, 3) := by decide +kernel
theorem dX10_tetsWithPoints_19 : decode cX10_tetsWithPoints 19 = .ok (.aload_n 0, 1) := by decide +kernel
theorem dX10_tetsWithPoints_20 : decode cX10_tetsWithPoints 20 = .ok (.getfield 28, 3) := by decide +kernel
theorem dX10_tetsWithPoints_23 : decode cX10_tetsWithPoints 23 = .ok (.getfield 158, 3) := by decide +kernel
theorem dX10_tetsWithPoints_26 : decode cX10_tetsWithPoints 26 = .ok (.iload_n 2, 1) := by decide +kernel
theorem dX10_tetsWithPoints_27 : decode cX10_tetsWithPoints 27 = .ok (.bipush 12, 2) := by decide +kernel
theorem dX10_tetsWithPoints_29 : decode cX10_tetsWithPoints 29 = .ok (.imul, 1) := by decide +kernel
theorem dX10_tetsWithPoints_30 : decode cX10_tetsWithPoints 30 = .ok (.invokevirtual 235, 3) := by decide +kernel
theorem dX10_tetsWithPoints_33 : decode cX10_tetsWithPoints 33 = .ok (.iload_n 1, 1) := by decide +kernel
theorem dX10_tetsWithPoints_34 : decode cX10_tetsWithPoints 34 = .ok (.aload_n 0, 1) := by decide +kernel
theorem dX10_tetsWithPoints_35 : decode cX10_tetsWithPoints 35 = .ok (.getfield 68, 3) := by decide +kernel
theorem dX10_tetsWithPoints_38 : decode cX10_tetsWithPoints 38 = .ok (.invokevirtual 294, 3) := by decide +kernel
theorem dX10_tetsWithPoints_41 : decode cX10_tetsWithPoints 41 = .ok (.iconst 4, 1) := by decide +kernel
theorem dX10_tetsWithPoints_42 : decode cX10_tetsWithPoints 42 = .ok (.if_icmp .le 7, 3) := by decide +kernel
theorem dX10_tetsWithPoints_45 : decode cX10_tetsWithPoints 45 = .ok (.iconst 1, 1) := by decide +kernel
theorem dX10_tetsWithPoints_46 : decode cX10_tetsWithPoints 46 = .ok (.goto 4, 3) := by decide +kernel
theorem dX10_tetsWithPoints_49 : decode cX10_tetsWithPoints 49 = .ok (.iconst 0, 1) := by decide +kernel
theorem dX10_tetsWithPoints_50 : decode cX10_tetsWithPoints 50 = .ok (.iadd, 1) := by decide +kernel
theorem dX10_tetsWithPoints_51 : decode cX10_tetsWithPoints 51 = .ok (.istore_n 1, 1) := by decide +kernel
theorem dX10_tetsWithPoints_52 : decode cX10_tetsWithPoints 52 = .ok (.iinc 2 1, 3) := by decide +kernel
theorem dX10_tetsWithPoints_55 : decode cX10_tetsWithPoints 55 = .ok (.goto (-51), 3) := by decide +kernel
theorem dX10_tetsWithPoints_58 : decode cX10_tetsWithPoints 58 = .ok (.iload_n 1, 1) := by decide +kernel
theorem dX10_tetsWithPoints_59 : decode cX10_tetsWithPoints 59 = .ok (.ireturn, 1) := by decide +kernel
set_option maxRecDepth 20000 in
theorem ggX10_solidsWithoutSum_X8_rowOfTerm : GoodIn wsX10_solidsWithoutSum wsX8_rowOfTerm := goodIn_r _ [6, 7, 8, 9, 10, 5, 11, 12, 26, 27, 28, 29] (by decide +kernel) (by decide +kernel)
set_option maxRecDepth 20000 in
theorem gX10_solidsWithoutSum_X8_rowOfTerm : GoodIn wsX10_solidsWithoutSum (wsV RX10 209 RX8 yX8_rowOfTerm wsX8_rowOfTerm) := goodIn_app (goodIn_of _ (by decide +kernel)) ggX10_solidsWithoutSum_X8_rowOfTerm
theorem dX10_solidsWithoutSum_0 : decode cX10_solidsWithoutSum 0 = .ok (.iconst 0, 1) := by decide +kernel
theorem dX10_solidsWithoutSum_1 : decode cX10_solidsWithoutSum 1 = .ok (.istore_n 1, 1) := by decide +kernel
theorem dX10_solidsWithoutSum_2 : decode cX10_solidsWithoutSum 2 = .ok (.iconst 0, 1) := by decide +kernel
theorem dX10_solidsWithoutSum_3 : decode cX10_solidsWithoutSum 3 = .ok (.istore_n 2, 1) := by decide +kernel
theorem dX10_solidsWithoutSum_4 : decode cX10_solidsWithoutSum 4 = .ok (.iload_n 2, 1) := by decide +kernel
theorem dX10_solidsWithoutSum_5 : decode cX10_solidsWithoutSum 5 = .ok (.iconst 4, 1) := by decide +kernel
theorem dX10_solidsWithoutSum_6 : decode cX10_solidsWithoutSum 6 = .ok (.if_icmp .ge 31, 3) := by decide +kernel
theorem dX10_solidsWithoutSum_9 : decode cX10_solidsWithoutSum 9 = .ok (.iload_n 1, 1) := by decide +kernel
theorem dX10_solidsWithoutSum_10 : decode cX10_solidsWithoutSum 10 = .ok (.aload_n 0, 1) := by decide +kernel
theorem dX10_solidsWithoutSum_11 : decode cX10_solidsWithoutSum 11 = .ok (.getfield 51, 3) := by decide +kernel
theorem dX10_solidsWithoutSum_14 : decode cX10_solidsWithoutSum 14 = .ok (.iload_n 2, 1) := by decide +kernel
theorem dX10_solidsWithoutSum_15 : decode cX10_solidsWithoutSum 15 = .ok (.iconst 0, 1) := by decide +kernel
theorem dX10_solidsWithoutSum_16 : decode cX10_solidsWithoutSum 16 = .ok (.invokevirtual 209, 3) := by decide +kernel
theorem dX10_solidsWithoutSum_19 : decode cX10_solidsWithoutSum 19 = .ok (.ifCond .ge 9, 3) := by decide +kernel
theorem dX10_solidsWithoutSum_22 : decode cX10_solidsWithoutSum 22 = .ok (.iconst 1, 1) := by decide +kernel
theorem dX10_solidsWithoutSum_23 : decode cX10_solidsWithoutSum 23 = .ok (.iload_n 2, 1) := by decide +kernel
theorem dX10_solidsWithoutSum_24 : decode cX10_solidsWithoutSum 24 = .ok (.ishl, 1) := by decide +kernel
theorem dX10_solidsWithoutSum_25 : decode cX10_solidsWithoutSum 25 = .ok (.goto 4, 3) := by decide +kernel
theorem dX10_solidsWithoutSum_28 : decode cX10_solidsWithoutSum 28 = .ok (.iconst 0, 1) := by decide +kernel
theorem dX10_solidsWithoutSum_29 : decode cX10_solidsWithoutSum 29 = .ok (.ior, 1) := by decide +kernel
theorem dX10_solidsWithoutSum_30 : decode cX10_solidsWithoutSum 30 = .ok (.istore_n 1, 1) := by decide +kernel
theorem dX10_solidsWithoutSum_31 : decode cX10_solidsWithoutSum 31 = .ok (.iinc 2 1, 3) := by decide +kernel
theorem dX10_solidsWithoutSum_34 : decode cX10_solidsWithoutSum 34 = .ok (.goto (-30), 3) := by decide +kernel
theorem dX10_solidsWithoutSum_37 : decode cX10_solidsWithoutSum 37 = .ok (.iload_n 1, 1) := by decide +kernel
theorem dX10_solidsWithoutSum_38 : decode cX10_solidsWithoutSum 38 = .ok (.ireturn, 1) := by decide +kernel
set_option maxRecDepth 20000 in
theorem ggX10_alikeCouples_X1_tetsOfSolid : GoodIn wsX10_alikeCouples wsX1_tetsOfSolid := goodIn_r _ [6, 7, 8, 47, 48, 49, 50, 51, 52] (by decide +kernel) (by decide +kernel)
set_option maxRecDepth 20000 in
theorem gX10_alikeCouples_X1_tetsOfSolid : GoodIn wsX10_alikeCouples (wsV RX10 200 RX1 yX1_tetsOfSolid wsX1_tetsOfSolid) := goodIn_app (goodIn_of _ (by decide +kernel)) ggX10_alikeCouples_X1_tetsOfSolid
set_option maxRecDepth 20000 in
theorem ggX10_alikeCouples_X10_alike : GoodIn wsX10_alikeCouples wsX10_alike := goodIn_r _ [13, 1, 14, 15, 16, 12, 17, 18, 19, 20, 5, 21, 7, 8, 22, 23, 24, 25, 26, 27, 28, 29, 30, 31, 32, 33, 34, 35, 36, 37, 38, 39, 40, 41, 42, 43, 44, 45, 46, 47, 48, 49, 50, 51, 52, 53, 54, 55, 56] (by decide +kernel) (by decide +kernel)
set_option maxRecDepth 20000 in
theorem gX10_alikeCouples_X10_alike : GoodIn wsX10_alikeCouples (wsV RX10 400 RX10 yX10_alike wsX10_alike) := goodIn_app (goodIn_of _ (by decide +kernel)) ggX10_alikeCouples_X10_alike
theorem dX10_alikeCouples_0 : decode cX10_alikeCouples 0 = .ok (.iconst 0, 1) := by decide +kernel
theorem dX10_alikeCouples_1 : decode cX10_alikeCouples 1 = .ok (.istore_n 1, 1) := by decide +kernel
theorem dX10_alikeCouples_2 : decode cX10_alikeCouples 2 = .ok (.iconst 0, 1) := by decide +kernel
theorem dX10_alikeCouples_3 : decode cX10_alikeCouples 3 = .ok (.istore_n 2, 1) := by decide +kernel
theorem dX10_alikeCouples_4 : decode cX10_alikeCouples 4 = .ok (.iload_n 2, 1) := by decide +kernel
theorem dX10_alikeCouples_5 : decode cX10_alikeCouples 5 = .ok (.iconst 4, 1) := by decide +kernel
theorem dX10_alikeCouples_6 : decode cX10_alikeCouples 6 = .ok (.if_icmp .ge 75, 3) := by decide +kernel
theorem dX10_alikeCouples_9 : decode cX10_alikeCouples 9 = .ok (.iload_n 2, 1) := by decide +kernel
theorem dX10_alikeCouples_10 : decode cX10_alikeCouples 10 = .ok (.iconst 1, 1) := by decide +kernel
theorem dX10_alikeCouples_11 : decode cX10_alikeCouples 11 = .ok (.iadd, 1) := by decide +kernel
theorem dX10_alikeCouples_12 : decode cX10_alikeCouples 12 = .ok (.istore_n 3, 1) := by decide +kernel
theorem dX10_alikeCouples_13 : decode cX10_alikeCouples 13 = .ok (.iload_n 3, 1) := by decide +kernel
theorem dX10_alikeCouples_14 : decode cX10_alikeCouples 14 = .ok (.iconst 4, 1) := by decide +kernel
theorem dX10_alikeCouples_15 : decode cX10_alikeCouples 15 = .ok (.if_icmp .ge 60, 3) := by decide +kernel
theorem dX10_alikeCouples_18 : decode cX10_alikeCouples 18 = .ok (.aload_n 0, 1) := by decide +kernel
theorem dX10_alikeCouples_19 : decode cX10_alikeCouples 19 = .ok (.getfield 28, 3) := by decide +kernel
theorem dX10_alikeCouples_22 : decode cX10_alikeCouples 22 = .ok (.iload_n 2, 1) := by decide +kernel
theorem dX10_alikeCouples_23 : decode cX10_alikeCouples 23 = .ok (.invokevirtual 200, 3) := by decide +kernel
theorem dX10_alikeCouples_26 : decode cX10_alikeCouples 26 = .ok (.ifCond .le 18, 3) := by decide +kernel
theorem dX10_alikeCouples_29 : decode cX10_alikeCouples 29 = .ok (.aload_n 0, 1) := by decide +kernel
theorem dX10_alikeCouples_30 : decode cX10_alikeCouples 30 = .ok (.getfield 28, 3) := by decide +kernel
theorem dX10_alikeCouples_33 : decode cX10_alikeCouples 33 = .ok (.iload_n 3, 1) := by decide +kernel
theorem dX10_alikeCouples_34 : decode cX10_alikeCouples 34 = .ok (.invokevirtual 200, 3) := by decide +kernel
theorem dX10_alikeCouples_37 : decode cX10_alikeCouples 37 = .ok (.ifCond .le 7, 3) := by decide +kernel
theorem dX10_alikeCouples_40 : decode cX10_alikeCouples 40 = .ok (.iconst 1, 1) := by decide +kernel
theorem dX10_alikeCouples_41 : decode cX10_alikeCouples 41 = .ok (.goto 4, 3) := by decide +kernel
theorem dX10_alikeCouples_44 : decode cX10_alikeCouples 44 = .ok (.iconst 0, 1) := by decide +kernel
theorem dX10_alikeCouples_45 : decode cX10_alikeCouples 45 = .ok (.istore 4, 2) := by decide +kernel
theorem dX10_alikeCouples_47 : decode cX10_alikeCouples 47 = .ok (.iload_n 1, 1) := by decide +kernel
theorem dX10_alikeCouples_48 : decode cX10_alikeCouples 48 = .ok (.iload 4, 2) := by decide +kernel
theorem dX10_alikeCouples_50 : decode cX10_alikeCouples 50 = .ok (.ifCond .eq 16, 3) := by decide +kernel
theorem dX10_alikeCouples_53 : decode cX10_alikeCouples 53 = .ok (.aload_n 0, 1) := by decide +kernel
theorem dX10_alikeCouples_54 : decode cX10_alikeCouples 54 = .ok (.iload_n 2, 1) := by decide +kernel
theorem dX10_alikeCouples_55 : decode cX10_alikeCouples 55 = .ok (.iload_n 3, 1) := by decide +kernel
theorem dX10_alikeCouples_56 : decode cX10_alikeCouples 56 = .ok (.invokevirtual 400, 3) := by decide +kernel
theorem dX10_alikeCouples_59 : decode cX10_alikeCouples 59 = .ok (.ifCond .ne 7, 3) := by decide +kernel
theorem dX10_alikeCouples_62 : decode cX10_alikeCouples 62 = .ok (.iconst 1, 1) := by decide +kernel
theorem dX10_alikeCouples_63 : decode cX10_alikeCouples 63 = .ok (.goto 4, 3) := by decide +kernel
theorem dX10_alikeCouples_66 : decode cX10_alikeCouples 66 = .ok (.iconst 0, 1) := by decide +kernel
theorem dX10_alikeCouples_67 : decode cX10_alikeCouples 67 = .ok (.iadd, 1) := by decide +kernel
theorem dX10_alikeCouples_68 : decode cX10_alikeCouples 68 = .ok (.istore_n 1, 1) := by decide +kernel
theorem dX10_alikeCouples_69 : decode cX10_alikeCouples 69 = .ok (.iinc 3 1, 3) := by decide +kernel
theorem dX10_alikeCouples_72 : decode cX10_alikeCouples 72 = .ok (.goto (-59), 3) := by decide +kernel
theorem dX10_alikeCouples_75 : decode cX10_alikeCouples 75 = .ok (.iinc 2 1, 3) := by decide +kernel
theorem dX10_alikeCouples_78 : decode cX10_alikeCouples 78 = .ok (.goto (-74), 3) := by decide +kernel
theorem dX10_alikeCouples_81 : decode cX10_alikeCouples 81 = .ok (.iload_n 1, 1) := by decide +kernel
theorem dX10_alikeCouples_82 : decode cX10_alikeCouples 82 = .ok (.ireturn, 1) := by decide +kernel
theorem dX11_init_0 : decode cX11_init 0 = .ok (.aload_n 0, 1) := by decide +kernel
theorem dX11_init_1 : decode cX11_init 1 = .ok (.invokespecial 1, 3) := by decide +kernel
theorem dX11_init_4 : decode cX11_init 4 = .ok (.aload_n 0, 1) := by decide +kernel
theorem dX11_init_5 : decode cX11_init 5 = .ok (.sipush 600, 3) := by decide +kernel
theorem dX11_init_8 : decode cX11_init 8 = .ok (.newarray .byte, 2) := by decide +kernel
theorem dX11_init_10 : decode cX11_init 10 = .ok (.putfield 9, 3) := by decide +kernel
theorem dX11_init_13 : decode cX11_init 13 = .ok (.aload_n 0, 1) := by decide +kernel
theorem dX11_init_14 : decode cX11_init 14 = .ok (.bipush 16, 2) := by decide +kernel
theorem dX11_init_16 : decode cX11_init 16 = .ok (.newarray .int, 2) := by decide +kernel
theorem dX11_init_18 : decode cX11_init 18 = .ok (.putfield 13, 3) := by decide +kernel
theorem dX11_init_21 : decode cX11_init 21 = .ok (.aload_n 0, 1) := by decide +kernel
theorem dX11_init_22 : decode cX11_init 22 = .ok (.sipush 676, 3) := by decide +kernel
theorem dX11_init_25 : decode cX11_init 25 = .ok (.newarray .int, 2) := by decide +kernel
theorem dX11_init_27 : decode cX11_init 27 = .ok (.putfield 17, 3) := by decide +kernel
theorem dX11_init_30 : decode cX11_init 30 = .ok (.aload_n 0, 1) := by decide +kernel
theorem dX11_init_31 : decode cX11_init 31 = .ok (.bipush 16, 2) := by decide +kernel
theorem dX11_init_33 : decode cX11_init 33 = .ok (.newarray .int, 2) := by decide +kernel
theorem dX11_init_35 : decode cX11_init 35 = .ok (.putfield 20, 3) := by decide +kernel
theorem dX11_init_38 : decode cX11_init 38 = .ok (.aload_n 0, 1) := by decide +kernel
theorem dX11_init_39 : decode cX11_init 39 = .ok (.bipush 16, 2) := by decide +kernel
theorem dX11_init_41 : decode cX11_init 41 = .ok (.newarray .int, 2) := by decide +kernel
theorem dX11_init_43 : decode cX11_init 43 = .ok (.putfield 23, 3) := by decide +kernel
theorem dX11_init_46 : decode cX11_init 46 = .ok (.aload_n 0, 1) := by decide +kernel
theorem dX11_init_47 : decode cX11_init 47 = .ok (.bipush 6, 2) := by decide +kernel
theorem dX11_init_49 : decode cX11_init 49 = .ok (.newarray .int, 2) := by decide +kernel
theorem dX11_init_51 : decode cX11_init 51 = .ok (.putfield 26, 3) := by decide +kernel
theorem dX11_init_54 : decode cX11_init 54 = .ok (.aload_n 0, 1) := by decide +kernel
theorem dX11_init_55 : decode cX11_init 55 = .ok (.sipush 3600, 3) := by decide +kernel
theorem dX11_init_58 : decode cX11_init 58 = .ok (.newarray .int, 2) := by decide +kernel
theorem dX11_init_60 : decode cX11_init 60 = .ok (.putfield 29, 3) := by decide +kernel
theorem dX11_init_63 : decode cX11_init 63 = .ok (.aload_n 0, 1) := by decide +kernel
theorem dX11_init_64 : decode cX11_init 64 = .ok (.sipush 3600, 3) := by decide +kernel
theorem dX11_init_67 : decode cX11_init 67 = .ok (.newarray .int, 2) := by decide +kernel
theorem dX11_init_69 : decode cX11_init 69 = .ok (.putfield 32, 3) := by decide +kernel
theorem dX11_init_72 : decode cX11_init 72 = .ok (.aload_n 0, 1) := by decide +kernel
theorem dX11_init_73 : decode cX11_init 73 = .ok (.sipush 3600, 3) := by decide +kernel
theorem dX11_init_76 : decode cX11_init 76 = .ok (.newarray .int, 2) := by decide +kernel
theorem dX11_init_78 : decode cX11_init 78 = .ok (.putfield 35, 3) := by decide +kernel
theorem dX11_init_81 : decode cX11_init 81 = .ok (.aload_n 0, 1) := by decide +kernel
theorem dX11_init_82 : decode cX11_init 82 = .ok (.bipush 6, 2) := by decide +kernel
theorem dX11_init_84 : decode cX11_init 84 = .ok (.newarray .int, 2) := by decide +kernel
theorem dX11_init_86 : decode cX11_init 86 = .ok (.putfield 38, 3) := by decide +kernel
theorem dX11_init_89 : decode cX11_init 89 = .ok (.aload_n 0, 1) := by decide +kernel
theorem dX11_init_90 : decode cX11_init 90 = .ok (.bipush 6, 2) := by decide +kernel
theorem dX11_init_92 : decode cX11_init 92 = .ok (.newarray .int, 2) := by decide +kernel
theorem dX11_init_94 : decode cX11_init 94 = .ok (.putfield 41, 3) := by decide +kernel
theorem dX11_init_97 : decode cX11_init 97 = .ok (.aload_n 0, 1) := by decide +kernel
theorem dX11_init_98 : decode cX11_init 98 = .ok (.iconst 4, 1) := by decide +kernel
theorem dX11_init_99 : decode cX11_init 99 = .ok (.newarray .int, 2) := by decide +kernel
theorem dX11_init_101 : decode cX11_init 101 = .ok (.putfield 44, 3) := by decide +kernel
theorem dX11_init_104 : decode cX11_init 104 = .ok (.aload_n 0, 1) := by decide +kernel
theorem dX11_init_105 : decode cX11_init 105 = .ok (.iconst 4, 1) := by decide +kernel
theorem dX11_init_106 : decode cX11_init 106 = .ok (.newarray .int, 2) := by decide +kernel
theorem dX11_init_108 : decode cX11_init 108 = .ok (.putfield 47, 3) := by decide +kernel
theorem dX11_init_111 : decode cX11_init 111 = .ok (.aload_n 0, 1) := by decide +kernel
theorem dX11_init_112 : decode cX11_init 112 = .ok (.sipush 1560, 3) := by decide +kernel
theorem dX11_init_115 : decode cX11_init 115 = .ok (.newarray .int, 2) := by decide +kernel
theorem dX11_init_117 : decode cX11_init 117 = .ok (.putfield 50, 3) := by decide +kernel
theorem dX11_init_120 : decode cX11_init 120 = .ok (.aload_n 0, 1) := by decide +kernel
theorem dX11_init_121 : decode cX11_init 121 = .ok (.bipush 6, 2) := by decide +kernel
theorem dX11_init_123 : decode cX11_init 123 = .ok (.newarray .int, 2) := by decide +kernel
theorem dX11_init_125 : decode cX11_init 125 = .ok (.putfield 53, 3) := by decide +kernel
theorem dX11_init_128 : decode cX11_init 128 = .ok (.aload_n 0, 1) := by decide +kernel
theorem dX11_init_129 : decode cX11_init 129 = .ok (.bipush 6, 2) := by decide +kernel
theorem dX11_init_131 : decode cX11_init 131 = .ok (.newarray .int, 2) := by decide +kernel
theorem dX11_init_133 : decode cX11_init 133 = .ok (.putfield 56, 3) := by decide +kernel
theorem dX11_init_136 : decode cX11_init 136 = .ok (.aload_n 0, 1) := by decide +kernel
theorem dX11_init_137 : decode cX11_init 137 = .ok (.bipush 6, 2) := by decide +kernel
theorem dX11_init_139 : decode cX11_init 139 = .ok (.newarray .int, 2) := by decide +kernel
theorem dX11_init_141 : decode cX11_init 141 = .ok (.putfield 59, 3) := by decide +kernel
theorem dX11_init_144 : decode cX11_init 144 = .ok (.aload_n 0, 1) := by decide +kernel
theorem dX11_init_145 : decode cX11_init 145 = .ok (.bipush 6, 2) := by decide +kernel
theorem dX11_init_147 : decode cX11_init 147 = .ok (.newarray .int, 2) := by decide +kernel
theorem dX11_init_149 : decode cX11_init 149 = .ok (.putfield 62, 3) := by decide +kernel
theorem dX11_init_152 : decode cX11_init 152 = .ok (.aload_n 0, 1) := by decide +kernel
theorem dX11_init_153 : decode cX11_init 153 = .ok (.bipush 6, 2) := by decide +kernel
theorem dX11_init_155 : decode cX11_init 155 = .ok (.newarray .int, 2) := by decide +kernel
theorem dX11_init_157 : decode cX11_init 157 = .ok (.putfield 65, 3) := by decide +kernel
theorem dX11_init_160 : decode cX11_init 160 = .ok (.aload_n 0, 1) := by decide +kernel
theorem dX11_init_161 : decode cX11_init 161 = .ok (.bipush 7, 2) := by decide +kernel
theorem dX11_init_163 : decode cX11_init 163 = .ok (.newarray .int, 2) := by decide +kernel
theorem dX11_init_165 : decode cX11_init 165 = .ok (.putfield 68, 3) := by decide +kernel
theorem dX11_init_168 : decode cX11_init 168 = .ok (.aload_n 0, 1) := by decide +kernel
theorem dX11_init_169 : decode cX11_init 169 = .ok (.bipush 36, 2) := by decide +kernel
theorem dX11_init_171 : decode cX11_init 171 = .ok (.newarray .long, 2) := by decide +kernel
theorem dX11_init_173 : decode cX11_init 173 = .ok (.putfield 71, 3) := by decide +kernel
theorem dX11_init_176 : decode cX11_init 176 = .ok (.aload_n 0, 1) := by decide +kernel
theorem dX11_init_177 : decode cX11_init 177 = .ok (.bipush 6, 2) := by decide +kernel
theorem dX11_init_179 : decode cX11_init 179 = .ok (.newarray .long, 2) := by decide +kernel
theorem dX11_init_181 : decode cX11_init 181 = .ok (.putfield 75, 3) := by decide +kernel
theorem dX11_init_184 : decode cX11_init 184 = .ok (.aload_n 0, 1) := by decide +kernel
theorem dX11_init_185 : decode cX11_init 185 = .ok (.sipush 3600, 3) := by decide +kernel
theorem dX11_init_188 : decode cX11_init 188 = .ok (.newarray .int, 2) := by decide +kernel
theorem dX11_init_190 : decode cX11_init 190 = .ok (.putfield 78, 3) := by decide +kernel
theorem dX11_init_193 : decode cX11_init 193 = .ok (.aload_n 0, 1) := by decide +kernel
theorem dX11_init_194 : decode cX11_init 194 = .ok (.sipush 1200, 3) := by decide +kernel
theorem dX11_init_197 : decode cX11_init 197 = .ok (.newarray .int, 2) := by decide +kernel
theorem dX11_init_199 : decode cX11_init 199 = .ok (.putfield 81, 3) := by decide +kernel
theorem dX11_init_202 : decode cX11_init 202 = .ok (.aload_n 0, 1) := by decide +kernel
theorem dX11_init_203 : decode cX11_init 203 = .ok (.sipush 1200, 3) := by decide +kernel
theorem dX11_init_206 : decode cX11_init 206 = .ok (.newarray .int, 2) := by decide +kernel
theorem dX11_init_208 : decode cX11_init 208 = .ok (.putfield 84, 3) := by decide +kernel
theorem dX11_init_211 : decode cX11_init 211 = .ok (.aload_n 0, 1) := by decide +kernel
theorem dX11_init_212 : decode cX11_init 212 = .ok (.bipush 60, 2) := by decide +kernel
theorem dX11_init_214 : decode cX11_init 214 = .ok (.newarray .int, 2) := by decide +kernel
theorem dX11_init_216 : decode cX11_init 216 = .ok (.putfield 87, 3) := by decide +kernel
theorem dX11_init_219 : decode cX11_init 219 = .ok (.aload_n 0, 1) := by decide +kernel
theorem dX11_init_220 : decode cX11_init 220 = .ok (.sipush 183, 3) := by decide +kernel
theorem dX11_init_223 : decode cX11_init 223 = .ok (.newarray .int, 2) := by decide +kernel
theorem dX11_init_225 : decode cX11_init 225 = .ok (.putfield 90, 3) := by decide +kernel
theorem dX11_init_228 : decode cX11_init 228 = .ok (.aload_n 0, 1) := by decide +kernel
theorem dX11_init_229 : decode cX11_init 229 = .ok (.iconst (-1), 1) := by decide +kernel
theorem dX11_init_230 : decode cX11_init 230 = .ok (.putfield 93, 3) := by decide +kernel
theorem dX11_init_233 : decode cX11_init 233 = .ok (.aload_n 0, 1) := by decide +kernel
theorem dX11_init_234 : decode cX11_init 234 = .ok (.iconst 3, 1) := by decide +kernel
theorem dX11_init_235 : decode cX11_init 235 = .ok (.newarray .int, 2) := by decide +kernel
theorem dX11_init_237 : decode cX11_init 237 = .ok (.putfield 97, 3) := by decide +kernel
theorem dX11_init_240 : decode cX11_init 240 = .ok (.aload_n 0, 1) := by decide +kernel
theorem dX11_init_241 : decode cX11_init 241 = .ok (.iconst 3, 1) := by decide +kernel
theorem dX11_init_242 : decode cX11_init 242 = .ok (.newarray .int, 2) := by decide +kernel
theorem dX11_init_244 : decode cX11_init 244 = .ok (.putfield 100, 3) := by decide +kernel
theorem dX11_init_247 : decode cX11_init 247 = .ok (.aload_n 0, 1) := by decide +kernel
theorem dX11_init_248 : decode cX11_init 248 = .ok (.sipush 1728, 3) := by decide +kernel
theorem dX11_init_251 : decode cX11_init 251 = .ok (.newarray .int, 2) := by decide +kernel
theorem dX11_init_253 : decode cX11_init 253 = .ok (.putfield 103, 3) := by decide +kernel
theorem dX11_init_256 : decode cX11_init 256 = .ok (.return_, 1) := by decide +kernel
theorem dX11_thrown_0 : decode cX11_thrown 0 = .ok (.aload_n 0, 1) := by decide +kernel
theorem dX11_thrown_1 : decode cX11_thrown 1 = .ok (.getfield 106, 3) := by decide +kernel
theorem dX11_thrown_4 : decode cX11_thrown 4 = .ok (.ireturn, 1) := by decide +kernel
theorem dX11_isIn_0 : decode cX11_isIn 0 = .ok (.lload_n 0, 1) := by decide +kernel
theorem dX11_isIn_1 : decode cX11_isIn 1 = .ok (.lload_n 2, 1) := by decide +kernel
theorem dX11_isIn_2 : decode cX11_isIn 2 = .ok (.lcmp, 1) := by decide +kernel
theorem dX11_isIn_3 : decode cX11_isIn 3 = .ok (.ifCond .lt 14, 3) := by decide +kernel
theorem dX11_isIn_6 : decode cX11_isIn 6 = .ok (.lload_n 0, 1) := by decide +kernel
theorem dX11_isIn_7 : decode cX11_isIn 7 = .ok (.lload 4, 2) := by decide +kernel
theorem dX11_isIn_9 : decode cX11_isIn 9 = .ok (.lcmp, 1) := by decide +kernel
theorem dX11_isIn_10 : decode cX11_isIn 10 = .ok (.ifCond .gt 7, 3) := by decide +kernel
theorem dX11_isIn_13 : decode cX11_isIn 13 = .ok (.iconst 1, 1) := by decide +kernel
theorem dX11_isIn_14 : decode cX11_isIn 14 = .ok (.goto 4, 3) := by decide +kernel
theorem dX11_isIn_17 : decode cX11_isIn 17 = .ok (.iconst 0, 1) := by decide +kernel
theorem dX11_isIn_18 : decode cX11_isIn 18 = .ok (.ireturn, 1) := by decide +kernel
theorem dX11_common_0 : decode cX11_common 0 = .ok (.lload_n 0, 1) := by decide +kernel
theorem dX11_common_1 : decode cX11_common 1 = .ok (.lconst 0, 1) := by decide +kernel
theorem dX11_common_2 : decode cX11_common 2 = .ok (.lcmp, 1) := by decide +kernel
theorem dX11_common_3 : decode cX11_common 3 = .ok (.ifCond .ge 8, 3) := by decide +kernel
theorem dX11_common_6 : decode cX11_common 6 = .ok (.lload_n 0, 1) := by decide +kernel
theorem dX11_common_7 : decode cX11_common 7 = .ok (.lneg, 1) := by decide +kernel
theorem dX11_common_8 : decode cX11_common 8 = .ok (.goto 4, 3) := by decide +kernel
theorem dX11_common_11 : decode cX11_common 11 = .ok (.lload_n 0, 1) := by decide +kernel
theorem dX11_common_12 : decode cX11_common 12 = .ok (.lstore 4, 2) := by decide +kernel
theorem dX11_common_14 : decode cX11_common 14 = .ok (.lload_n 2, 1) := by decide +kernel
theorem dX11_common_15 : decode cX11_common 15 = .ok (.lconst 0, 1) := by decide +kernel
theorem dX11_common_16 : decode cX11_common 16 = .ok (.lcmp, 1) := by decide +kernel
theorem dX11_common_17 : decode cX11_common 17 = .ok (.ifCond .ge 8, 3) := by decide +kernel
theorem dX11_common_20 : decode cX11_common 20 = .ok (.lload_n 2, 1) := by decide +kernel
theorem dX11_common_21 : decode cX11_common 21 = .ok (.lneg, 1) := by decide +kernel
theorem dX11_common_22 : decode cX11_common 22 = .ok (.goto 4, 3) := by decide +kernel
theorem dX11_common_25 : decode cX11_common 25 = .ok (.lload_n 2, 1) := by decide +kernel
theorem dX11_common_26 : decode cX11_common 26 = .ok (.lstore 6, 2) := by decide +kernel
theorem dX11_common_28 : decode cX11_common 28 = .ok (.lload 6, 2) := by decide +kernel
theorem dX11_common_30 : decode cX11_common 30 = .ok (.lconst 0, 1) := by decide +kernel
theorem dX11_common_31 : decode cX11_common 31 = .ok (.lcmp, 1) := by decide +kernel
theorem dX11_common_32 : decode cX11_common 32 = .ok (.ifCond .eq 21, 3) := by decide +kernel
theorem dX11_common_35 : decode cX11_common 35 = .ok (.lload 4, 2) := by decide +kernel
theorem dX11_common_37 : decode cX11_common 37 = .ok (.lload 6, 2) := by decide +kernel
theorem dX11_common_39 : decode cX11_common 39 = .ok (.lrem, 1) := by decide +kernel
theorem dX11_common_40 : decode cX11_common 40 = .ok (.lstore 8, 2) := by decide +kernel
theorem dX11_common_42 : decode cX11_common 42 = .ok (.lload 6, 2) := by decide +kernel
theorem dX11_common_44 : decode cX11_common 44 = .ok (.lstore 4, 2) := by decide +kernel
theorem dX11_common_46 : decode cX11_common 46 = .ok (.lload 8, 2) := by decide +kernel
theorem dX11_common_48 : decode cX11_common 48 = .ok (.lstore 6, 2) := by decide +kernel
theorem dX11_common_50 : decode cX11_common 50 = .ok (.goto (-22), 3) := by decide +kernel
theorem dX11_common_53 : decode cX11_common 53 = .ok (.lload 4, 2) := by decide +kernel
theorem dX11_common_55 : decode cX11_common 55 = .ok (.lreturn, 1) := by decide +kernel
theorem dX11_bytesOf_0 : decode cX11_bytesOf 0 = .ok (.iconst 0, 1) := by decide +kernel
theorem dX11_bytesOf_1 : decode cX11_bytesOf 1 = .ok (.istore_n 1, 1) := by decide +kernel
theorem dX11_bytesOf_2 : decode cX11_bytesOf 2 = .ok (.iconst 0, 1) := by decide +kernel
theorem dX11_bytesOf_3 : decode cX11_bytesOf 3 = .ok (.istore_n 2, 1) := by decide +kernel
theorem dX11_bytesOf_4 : decode cX11_bytesOf 4 = .ok (.iload_n 2, 1) := by decide +kernel
theorem dX11_bytesOf_5 : decode cX11_bytesOf 5 = .ok (.iconst 4, 1) := by decide +kernel
theorem dX11_bytesOf_6 : decode cX11_bytesOf 6 = .ok (.if_icmp .ge 30, 3) := by decide +kernel
theorem dX11_bytesOf_9 : decode cX11_bytesOf 9 = .ok (.iload_n 1, 1) := by decide +kernel
theorem dX11_bytesOf_10 : decode cX11_bytesOf 10 = .ok (.iload_n 0, 1) := by decide +kernel
theorem dX11_bytesOf_11 : decode cX11_bytesOf 11 = .ok (.bipush 8, 2) := by decide +kernel
theorem dX11_bytesOf_13 : decode cX11_bytesOf 13 = .ok (.iload_n 2, 1) := by decide +kernel
theorem dX11_bytesOf_14 : decode cX11_bytesOf 14 = .ok (.imul, 1) := by decide +kernel
theorem dX11_bytesOf_15 : decode cX11_bytesOf 15 = .ok (.ishr, 1) := by decide +kernel
theorem dX11_bytesOf_16 : decode cX11_bytesOf 16 = .ok (.sipush 255, 3) := by decide +kernel
theorem dX11_bytesOf_19 : decode cX11_bytesOf 19 = .ok (.iand, 1) := by decide +kernel
theorem dX11_bytesOf_20 : decode cX11_bytesOf 20 = .ok (.ifCond .ne 7, 3) := by decide +kernel
theorem dX11_bytesOf_23 : decode cX11_bytesOf 23 = .ok (.iconst 0, 1) := by decide +kernel
theorem dX11_bytesOf_24 : decode cX11_bytesOf 24 = .ok (.goto 4, 3) := by decide +kernel
theorem dX11_bytesOf_27 : decode cX11_bytesOf 27 = .ok (.iconst 1, 1) := by decide +kernel
theorem dX11_bytesOf_28 : decode cX11_bytesOf 28 = .ok (.iadd, 1) := by decide +kernel
theorem dX11_bytesOf_29 : decode cX11_bytesOf 29 = .ok (.istore_n 1, 1) := by decide +kernel
theorem dX11_bytesOf_30 : decode cX11_bytesOf 30 = .ok (.iinc 2 1, 3) := by decide +kernel
theorem dX11_bytesOf_33 : decode cX11_bytesOf 33 = .ok (.goto (-29), 3) := by decide +kernel
theorem dX11_bytesOf_36 : decode cX11_bytesOf 36 = .ok (.iload_n 1, 1) := by decide +kernel
theorem dX11_bytesOf_37 : decode cX11_bytesOf 37 = .ok (.ireturn, 1) := by decide +kernel
theorem dX11_brings_0 : decode cX11_brings 0 = .ok (.bipush 24, 2) := by decide +kernel
theorem dX11_brings_2 : decode cX11_brings 2 = .ok (.istore_n 2, 1) := by decide +kernel
theorem dX11_brings_3 : decode cX11_brings 3 = .ok (.iload_n 2, 1) := by decide +kernel
theorem dX11_brings_4 : decode cX11_brings 4 = .ok (.ifCond .lt 45, 3) := by decide +kernel
theorem dX11_brings_7 : decode cX11_brings 7 = .ok (.iload_n 1, 1) := by decide +kernel
theorem dX11_brings_8 : decode cX11_brings 8 = .ok (.iload_n 2, 1) := by decide +kernel
theorem dX11_brings_9 : decode cX11_brings 9 = .ok (.ishr, 1) := by decide +kernel
theorem dX11_brings_10 : decode cX11_brings 10 = .ok (.sipush 255, 3) := by decide +kernel
theorem dX11_brings_13 : decode cX11_brings 13 = .ok (.iand, 1) := by decide +kernel
theorem dX11_brings_14 : decode cX11_brings 14 = .ok (.istore_n 3, 1) := by decide +kernel
theorem dX11_brings_15 : decode cX11_brings 15 = .ok (.iload_n 3, 1) := by decide +kernel
theorem dX11_brings_16 : decode cX11_brings 16 = .ok (.ifCond .ne 6, 3) := by decide +kernel
theorem dX11_brings_19 : decode cX11_brings 19 = .ok (.goto 24, 3) := by decide +kernel
theorem dX11_brings_22 : decode cX11_brings 22 = .ok (.aload_n 0, 1) := by decide +kernel
theorem dX11_brings_23 : decode cX11_brings 23 = .ok (.getfield 9, 3) := by decide +kernel
theorem dX11_brings_26 : decode cX11_brings 26 = .ok (.aload_n 0, 1) := by decide +kernel
theorem dX11_brings_27 : decode cX11_brings 27 = .ok (.getfield 109, 3) := by decide +kernel
theorem dX11_brings_30 : decode cX11_brings 30 = .ok (.iload_n 3, 1) := by decide +kernel
theorem dX11_brings_31 : decode cX11_brings 31 = .ok (.i2b, 1) := by decide +kernel
theorem dX11_brings_32 : decode cX11_brings 32 = .ok (.bastore, 1) := by decide +kernel
theorem dX11_brings_33 : decode cX11_brings 33 = .ok (.aload_n 0, 1) := by decide +kernel
theorem dX11_brings_34 : decode cX11_brings 34 = .ok (.dup, 1) := by decide +kernel
theorem dX11_brings_35 : decode cX11_brings 35 = .ok (.getfield 109, 3) := by decide +kernel
theorem dX11_brings_38 : decode cX11_brings 38 = .ok (.iconst 1, 1) := by decide +kernel
theorem dX11_brings_39 : decode cX11_brings 39 = .ok (.iadd, 1) := by decide +kernel
theorem dX11_brings_40 : decode cX11_brings 40 = .ok (.putfield 109, 3) := by decide +kernel
theorem dX11_brings_43 : decode cX11_brings 43 = .ok (.iinc 2 (-8), 3) := by decide +kernel
theorem dX11_brings_46 : decode cX11_brings 46 = .ok (.goto (-43), 3) := by decide +kernel
theorem dX11_brings_49 : decode cX11_brings 49 = .ok (.return_, 1) := by decide +kernel
set_option maxRecDepth 20000 in
theorem ggX11_feed_X11_bytesOf : GoodIn wsX11_feed wsX11_bytesOf := goodIn_r _ [6] (by decide +kernel) (by decide +kernel)
set_option maxRecDepth 20000 in
theorem gX11_feed_X11_bytesOf : GoodIn wsX11_feed (va_wsS RX11 112 yX11_bytesOf wsX11_bytesOf) := goodIn_app (goodIn_of _ (by decide +kernel)) ggX11_feed_X11_bytesOf
set_option maxRecDepth 20000 in
theorem ggX11_feed_X11_brings : GoodIn wsX11_feed wsX11_brings := goodIn_r _ [10, 11, 2, 12, 13, 14, 15, 16, 17, 18, 19, 20, 21, 22, 23, 24, 25, 26, 27, 28, 29, 30, 31, 32, 33, 34, 35, 36, 37, 38, 39, 40, 41, 42, 43, 44, 45, 46, 47, 48, 49, 50, 51, 52, 53, 54, 55, 56, 57, 58, 59, 60, 61, 62, 63] (by decide +kernel) (by decide +kernel)
set_option maxRecDepth 20000 in
theorem gX11_feed_X11_brings : GoodIn wsX11_feed (wsV RX11 116 RX11 yX11_brings wsX11_brings) := goodIn_app (goodIn_of _ (by decide +kernel)) ggX11_feed_X11_brings
theorem dX11_feed_0 : decode cX11_feed 0 = .ok (.aload_n 0, 1) := by decide +kernel
theorem dX11_feed_1 : decode cX11_feed 1 = .ok (.iconst 0, 1) := by decide +kernel
theorem dX11_feed_2 : decode cX11_feed 2 = .ok (.putfield 106, 3) := by decide +kernel
theorem dX11_feed_5 : decode cX11_feed 5 = .ok (.aload_n 0, 1) := by decide +kernel
theorem dX11_feed_6 : decode cX11_feed 6 = .ok (.getfield 109, 3) := by decide +kernel
theorem dX11_feed_9 : decode cX11_feed 9 = .ok (.iload_n 1, 1) := by decide +kernel
theorem dX11_feed_10 : decode cX11_feed 10 = .ok (.invokestatic 112, 3) := by decide +kernel
theorem dX11_feed_13 : decode cX11_feed 13 = .ok (.iadd, 1) := by decide +kernel
theorem dX11_feed_14 : decode cX11_feed 14 = .ok (.iload_n 2, 1) := by decide +kernel
theorem dX11_feed_15 : decode cX11_feed 15 = .ok (.invokestatic 112, 3) := by decide +kernel
theorem dX11_feed_18 : decode cX11_feed 18 = .ok (.iadd, 1) := by decide +kernel
theorem dX11_feed_19 : decode cX11_feed 19 = .ok (.iload_n 3, 1) := by decide +kernel
theorem dX11_feed_20 : decode cX11_feed 20 = .ok (.invokestatic 112, 3) := by decide +kernel
theorem dX11_feed_23 : decode cX11_feed 23 = .ok (.iadd, 1) := by decide +kernel
theorem dX11_feed_24 : decode cX11_feed 24 = .ok (.iload 4, 2) := by decide +kernel
theorem dX11_feed_26 : decode cX11_feed 26 = .ok (.invokestatic 112, 3) := by decide +kernel
theorem dX11_feed_29 : decode cX11_feed 29 = .ok (.iadd, 1) := by decide +kernel
theorem dX11_feed_30 : decode cX11_feed 30 = .ok (.iload 5, 2) := by decide +kernel
theorem dX11_feed_32 : decode cX11_feed 32 = .ok (.invokestatic 112, 3) := by decide +kernel
theorem dX11_feed_35 : decode cX11_feed 35 = .ok (.iadd, 1) := by decide +kernel
theorem dX11_feed_36 : decode cX11_feed 36 = .ok (.sipush 600, 3) := by decide +kernel
theorem dX11_feed_39 : decode cX11_feed 39 = .ok (.if_icmp .le 5, 3) := by decide +kernel
theorem dX11_feed_42 : decode cX11_feed 42 = .ok (.iconst (-1), 1) := by decide +kernel
theorem dX11_feed_43 : decode cX11_feed 43 = .ok (.ireturn, 1) := by decide +kernel
theorem dX11_feed_44 : decode cX11_feed 44 = .ok (.aload_n 0, 1) := by decide +kernel
theorem dX11_feed_45 : decode cX11_feed 45 = .ok (.iload_n 1, 1) := by decide +kernel
theorem dX11_feed_46 : decode cX11_feed 46 = .ok (.invokevirtual 116, 3) := by decide +kernel
theorem dX11_feed_49 : decode cX11_feed 49 = .ok (.aload_n 0, 1) := by decide +kernel
theorem dX11_feed_50 : decode cX11_feed 50 = .ok (.iload_n 2, 1) := by decide +kernel
theorem dX11_feed_51 : decode cX11_feed 51 = .ok (.invokevirtual 116, 3) := by decide +kernel
theorem dX11_feed_54 : decode cX11_feed 54 = .ok (.aload_n 0, 1) := by decide +kernel
theorem dX11_feed_55 : decode cX11_feed 55 = .ok (.iload_n 3, 1) := by decide +kernel
theorem dX11_feed_56 : decode cX11_feed 56 = .ok (.invokevirtual 116, 3) := by decide +kernel
theorem dX11_feed_59 : decode cX11_feed 59 = .ok (.aload_n 0, 1) := by decide +kernel
theorem dX11_feed_60 : decode cX11_feed 60 = .ok (.iload 4, 2) := by decide +kernel
theorem dX11_feed_62 : decode cX11_feed 62 = .ok (.invokevirtual 116, 3) := by decide +kernel
theorem dX11_feed_65 : decode cX11_feed 65 = .ok (.aload_n 0, 1) := by decide +kernel
theorem dX11_feed_66 : decode cX11_feed 66 = .ok (.iload 5, 2) := by decide +kernel
theorem dX11_feed_68 : decode cX11_feed 68 = .ok (.invokevirtual 116, 3) := by decide +kernel
theorem dX11_feed_71 : decode cX11_feed 71 = .ok (.aload_n 0, 1) := by decide +kernel
theorem dX11_feed_72 : decode cX11_feed 72 = .ok (.getfield 109, 3) := by decide +kernel
theorem dX11_feed_75 : decode cX11_feed 75 = .ok (.ireturn, 1) := by decide +kernel
theorem dX11_end_0 : decode cX11_end 0 = .ok (.aload_n 0, 1) := by decide +kernel
theorem dX11_end_1 : decode cX11_end 1 = .ok (.iconst 0, 1) := by decide +kernel
theorem dX11_end_2 : decode cX11_end 2 = .ok (.putfield 106, 3) := by decide +kernel
theorem dX11_end_5 : decode cX11_end 5 = .ok (.iload_n 1, 1) := by decide +kernel
theorem dX11_end_6 : decode cX11_end 6 = .ok (.ifCond .lt 11, 3) := by decide +kernel
theorem dX11_end_9 : decode cX11_end 9 = .ok (.iload_n 1, 1) := by decide +kernel
theorem dX11_end_10 : decode cX11_end 10 = .ok (.aload_n 0, 1) := by decide +kernel
theorem dX11_end_11 : decode cX11_end 11 = .ok (.getfield 109, 3) := by decide +kernel
theorem dX11_end_14 : decode cX11_end 14 = .ok (.if_icmp .le 5, 3) := by decide +kernel
theorem dX11_end_17 : decode cX11_end 17 = .ok (.iconst 0, 1) := by decide +kernel
theorem dX11_end_18 : decode cX11_end 18 = .ok (.ireturn, 1) := by decide +kernel
theorem dX11_end_19 : decode cX11_end 19 = .ok (.aload_n 0, 1) := by decide +kernel
theorem dX11_end_20 : decode cX11_end 20 = .ok (.iload_n 1, 1) := by decide +kernel
theorem dX11_end_21 : decode cX11_end 21 = .ok (.putfield 109, 3) := by decide +kernel
theorem dX11_end_24 : decode cX11_end 24 = .ok (.iconst 1, 1) := by decide +kernel
theorem dX11_end_25 : decode cX11_end 25 = .ok (.ireturn, 1) := by decide +kernel
theorem dX11_here_0 : decode cX11_here 0 = .ok (.aload_n 0, 1) := by decide +kernel
theorem dX11_here_1 : decode cX11_here 1 = .ok (.getfield 120, 3) := by decide +kernel
theorem dX11_here_4 : decode cX11_here 4 = .ok (.aload_n 0, 1) := by decide +kernel
theorem dX11_here_5 : decode cX11_here 5 = .ok (.getfield 109, 3) := by decide +kernel
theorem dX11_here_8 : decode cX11_here 8 = .ok (.if_icmp .ge 19, 3) := by decide +kernel
theorem dX11_here_11 : decode cX11_here 11 = .ok (.aload_n 0, 1) := by decide +kernel
theorem dX11_here_12 : decode cX11_here 12 = .ok (.getfield 9, 3) := by decide +kernel
theorem dX11_here_15 : decode cX11_here 15 = .ok (.aload_n 0, 1) := by decide +kernel
theorem dX11_here_16 : decode cX11_here 16 = .ok (.getfield 120, 3) := by decide +kernel
theorem dX11_here_19 : decode cX11_here 19 = .ok (.baload, 1) := by decide +kernel
theorem dX11_here_20 : decode cX11_here 20 = .ok (.sipush 255, 3) := by decide +kernel
theorem dX11_here_23 : decode cX11_here 23 = .ok (.iand, 1) := by decide +kernel
theorem dX11_here_24 : decode cX11_here 24 = .ok (.goto 4, 3) := by decide +kernel
theorem dX11_here_27 : decode cX11_here 27 = .ok (.iconst (-1), 1) := by decide +kernel
theorem dX11_here_28 : decode cX11_here 28 = .ok (.ireturn, 1) := by decide +kernel
set_option maxRecDepth 20000 in
theorem ggX11_look_X11_here : GoodIn wsX11_look wsX11_here := goodIn_r _ [6, 1, 7, 8, 9, 10, 11, 12, 13, 14, 15, 16, 17, 18, 19, 20, 21, 22, 23, 24, 25, 26, 27, 28, 29, 30, 31, 32, 33, 34, 35, 36, 37, 38, 39, 40, 41, 42, 43, 44, 45, 46, 47, 48, 49, 50, 51, 52, 53, 54, 55, 56, 57, 58, 59, 60] (by decide +kernel) (by decide +kernel)
set_option maxRecDepth 20000 in
theorem gX11_look_X11_here : GoodIn wsX11_look (wsV RX11 123 RX11 yX11_here wsX11_here) := goodIn_app (goodIn_of _ (by decide +kernel)) ggX11_look_X11_here
theorem dX11_look_0 : decode cX11_look 0 = .ok (.aload_n 0, 1) := by decide +kernel
theorem dX11_look_1 : decode cX11_look 1 = .ok (.invokevirtual 123, 3) := by decide +kernel
theorem dX11_look_4 : decode cX11_look 4 = .ok (.bipush 32, 2) := by decide +kernel
theorem dX11_look_6 : decode cX11_look 6 = .ok (.if_icmp .ne 16, 3) := by decide +kernel
theorem dX11_look_9 : decode cX11_look 9 = .ok (.aload_n 0, 1) := by decide +kernel
theorem dX11_look_10 : decode cX11_look 10 = .ok (.dup, 1) := by decide +kernel
theorem dX11_look_11 : decode cX11_look 11 = .ok (.getfield 120, 3) := by decide +kernel
theorem dX11_look_14 : decode cX11_look 14 = .ok (.iconst 1, 1) := by decide +kernel
theorem dX11_look_15 : decode cX11_look 15 = .ok (.iadd, 1) := by decide +kernel
theorem dX11_look_16 : decode cX11_look 16 = .ok (.putfield 120, 3) := by decide +kernel
theorem dX11_look_19 : decode cX11_look 19 = .ok (.goto (-19), 3) := by decide +kernel
theorem dX11_look_22 : decode cX11_look 22 = .ok (.aload_n 0, 1) := by decide +kernel
theorem dX11_look_23 : decode cX11_look 23 = .ok (.invokevirtual 123, 3) := by decide +kernel
theorem dX11_look_26 : decode cX11_look 26 = .ok (.ireturn, 1) := by decide +kernel
theorem dX11_fails_0 : decode cX11_fails 0 = .ok (.aload_n 0, 1) := by decide +kernel
theorem dX11_fails_1 : decode cX11_fails 1 = .ok (.getfield 127, 3) := by decide +kernel
theorem dX11_fails_4 : decode cX11_fails 4 = .ok (.iconst (-1), 1) := by decide +kernel
theorem dX11_fails_5 : decode cX11_fails 5 = .ok (.if_icmp .ne 11, 3) := by decide +kernel
theorem dX11_fails_8 : decode cX11_fails 8 = .ok (.aload_n 0, 1) := by decide +kernel
theorem dX11_fails_9 : decode cX11_fails 9 = .ok (.aload_n 0, 1) := by decide +kernel
theorem dX11_fails_10 : decode cX11_fails 10 = .ok (.getfield 120, 3) := by decide +kernel
theorem dX11_fails_13 : decode cX11_fails 13 = .ok (.putfield 127, 3) := by decide +kernel
theorem dX11_fails_16 : decode cX11_fails 16 = .ok (.return_, 1) := by decide +kernel
set_option maxRecDepth 20000 in
theorem ggX11_clause_X11_look : GoodIn wsX11_clause wsX11_look := goodIn_r _ [10, 1, 11, 12, 13, 9, 14, 15, 16, 105, 106, 107, 108, 109, 110, 111, 112, 113, 114, 115, 116, 117, 118, 119, 120, 121, 122, 123, 124, 125, 126, 127, 128, 129, 130, 131, 132, 133, 134, 135, 136, 137, 138, 139, 140, 141, 142, 143, 144, 145, 146, 147, 148, 149, 150, 151, 152, 153, 154, 155, 156] (by decide +kernel) (by decide +kernel)
set_option maxRecDepth 20000 in
theorem gX11_clause_X11_look : GoodIn wsX11_clause (wsV RX11 130 RX11 yX11_look wsX11_look) := goodIn_app (goodIn_of _ (by decide +kernel)) ggX11_clause_X11_look
set_option maxRecDepth 20000 in
theorem ggX11_clause_X11_fails : GoodIn wsX11_clause wsX11_fails := goodIn_r _ [20, 3, 1, 105, 106, 107, 108, 109, 110, 111, 112, 113, 114, 115, 116, 117, 118, 119, 120, 121, 122, 123, 124, 125, 126, 127, 128, 129, 130, 131, 132, 133, 134, 135, 136, 137, 138, 139, 140, 141, 142, 143, 144, 145, 146, 147, 148, 149, 150, 151, 152, 153, 154, 155, 156] (by decide +kernel) (by decide +kernel)
set_option maxRecDepth 20000 in
theorem gX11_clause_X11_fails : GoodIn wsX11_clause (wsV RX11 133 RX11 yX11_fails wsX11_fails) := goodIn_app (goodIn_of _ (by decide +kernel)) ggX11_clause_X11_fails
set_option maxRecDepth 20000 in
theorem ggX11_clause_X11_told : GoodIn wsX11_clause wsX11_told := goodIn_r _ [24, 3, 6, 7, 8, 9, 10, 1, 11, 12, 13, 14, 15, 16, 25, 26, 27, 28, 29, 30, 31, 32, 17, 18, 19, 20, 105, 106, 107, 108, 109, 110, 111, 112, 113, 114, 115, 116, 117, 118, 119, 120, 121, 122, 123, 124, 125, 126, 127, 128, 129, 130, 131, 132, 133, 134, 135, 136, 137, 138, 139, 140, 141, 142, 143, 144, 145, 146, 147, 148, 149, 150, 151, 152, 153, 154, 155, 156] (by decide +kernel) (by decide +kernel)
set_option maxRecDepth 20000 in
theorem gX11_clause_X11_told : GoodIn wsX11_clause (wsV RX11 153 RX11 yX11_told wsX11_told) := goodIn_app (goodIn_of _ (by decide +kernel)) ggX11_clause_X11_told
set_option maxRecDepth 20000 in
theorem ggX11_clause_X11_sign : GoodIn wsX11_clause wsX11_sign := goodIn_r _ [36, 3, 1, 6, 7, 8, 9, 10, 11, 12, 13, 14, 15, 16, 17, 18, 19, 20, 105, 106, 107, 108, 109, 110, 111, 112, 113, 114, 115, 116, 117, 118, 119, 120, 121, 122, 123, 124, 125, 126, 127, 128, 129, 130, 131, 132, 133, 134, 135, 136, 137, 138, 139, 140, 141, 142, 143, 144, 145, 146, 147, 148, 149, 150, 151, 152, 153, 154, 155, 156] (by decide +kernel) (by decide +kernel)
set_option maxRecDepth 20000 in
theorem gX11_clause_X11_sign : GoodIn wsX11_clause (wsV RX11 144 RX11 yX11_sign wsX11_sign) := goodIn_app (goodIn_of _ (by decide +kernel)) ggX11_clause_X11_sign
set_option maxRecDepth 20000 in
theorem ggX11_clause_X11_readTet : GoodIn wsX11_clause wsX11_readTet := goodIn_r _ [40, 33, 34, 35, 9, 36, 3, 1, 6, 7, 8, 10, 11, 12, 13, 14, 15, 16, 17, 18, 19, 20, 41, 42, 43, 44, 45, 2, 46, 47, 48, 49, 25, 26, 27, 28, 29, 30, 31, 32, 105, 106, 107, 108, 109, 110, 111, 112, 113, 114, 115, 116, 117, 118, 119, 120, 121, 122, 123, 124, 125, 126, 127, 128, 129, 130, 131, 132, 133, 134, 135, 136, 137, 138, 139, 140, 141, 142, 143, 144, 145, 146, 147, 148, 149, 150, 151, 152, 153, 154, 155, 156] (by decide +kernel) (by decide +kernel)
set_option maxRecDepth 20000 in
theorem gX11_clause_X11_readTet : GoodIn wsX11_clause (wsV RX11 156 RX11 yX11_readTet wsX11_readTet) := goodIn_app (goodIn_of _ (by decide +kernel)) ggX11_clause_X11_readTet
set_option maxRecDepth 20000 in
theorem ggX11_clause_X11_readBox : GoodIn wsX11_clause wsX11_readBox := goodIn_r _ [53, 45, 2, 41, 42, 43, 9, 44, 33, 34, 35, 36, 3, 1, 6, 7, 8, 10, 11, 12, 13, 14, 15, 16, 17, 18, 19, 20, 46, 47, 48, 49, 25, 26, 27, 28, 29, 30, 31, 32, 21, 22, 23, 24, 105, 106, 107, 108, 109, 110, 111, 112, 113, 114, 115, 116, 117, 118, 119, 120, 121, 122, 123, 124, 125, 126, 127, 128, 129, 130, 131, 132, 133, 134, 135, 136, 137, 138, 139, 140, 141, 142, 143, 144, 145, 146, 147, 148, 149, 150, 151, 152, 153, 154, 155, 156] (by decide +kernel) (by decide +kernel)
set_option maxRecDepth 20000 in
theorem gX11_clause_X11_readBox : GoodIn wsX11_clause (wsV RX11 159 RX11 yX11_readBox wsX11_readBox) := goodIn_app (goodIn_of _ (by decide +kernel)) ggX11_clause_X11_readBox
set_option maxRecDepth 20000 in
theorem ggX11_clause_X11_readPrism : GoodIn wsX11_clause wsX11_readPrism := goodIn_r _ [57, 45, 2, 3, 21, 22, 23, 9, 24, 6, 7, 8, 10, 1, 11, 12, 13, 14, 15, 16, 25, 26, 27, 28, 29, 30, 31, 32, 17, 18, 19, 20, 33, 34, 35, 36, 41, 42, 43, 44, 46, 47, 48, 49, 105, 106, 107, 108, 109, 110, 111, 112, 113, 114, 115, 116, 117, 118, 119, 120, 121, 122, 123, 124, 125, 126, 127, 128, 129, 130, 131, 132, 133, 134, 135, 136, 137, 138, 139, 140, 141, 142, 143, 144, 145, 146, 147, 148, 149, 150, 151, 152, 153, 154, 155, 156] (by decide +kernel) (by decide +kernel)
set_option maxRecDepth 20000 in
theorem gX11_clause_X11_readPrism : GoodIn wsX11_clause (wsV RX11 162 RX11 yX11_readPrism wsX11_readPrism) := goodIn_app (goodIn_of _ (by decide +kernel)) ggX11_clause_X11_readPrism
set_option maxRecDepth 20000 in
theorem ggX11_clause_X11_laysTet : GoodIn wsX11_clause wsX11_laysTet := goodIn_r _ [61, 62, 63, 45, 64, 65, 66, 9, 67, 68, 69, 70, 71, 72, 73, 74, 75, 76, 77, 78, 79, 80, 81, 105, 106, 107, 108, 109, 110, 111, 112, 113, 114, 115, 116, 117, 118, 119, 120, 121, 122, 123, 124, 125, 126, 127, 128, 129, 130, 131, 132, 133, 134, 135, 136, 137, 138, 139, 140, 141, 142, 143, 144, 145, 146, 147, 148, 149, 150, 151, 152, 153, 154, 155, 156] (by decide +kernel) (by decide +kernel)
set_option maxRecDepth 20000 in
theorem gX11_clause_X11_laysTet : GoodIn wsX11_clause (wsV RX11 169 RX11 yX11_laysTet wsX11_laysTet) := goodIn_app (goodIn_of _ (by decide +kernel)) ggX11_clause_X11_laysTet
set_option maxRecDepth 20000 in
theorem ggX11_clause_X11_laysBox : GoodIn wsX11_clause wsX11_laysBox := goodIn_r _ [85, 45, 62, 63, 86, 87, 88, 9, 89, 76, 77, 78, 72, 73, 74, 75, 90, 91, 92, 105, 106, 107, 108, 109, 110, 111, 112, 113, 114, 115, 116, 117, 118, 119, 120, 121, 122, 123, 124, 125, 126, 127, 128, 129, 130, 131, 132, 133, 134, 135, 136, 137, 138, 139, 140, 141, 142, 143, 144, 145, 146, 147, 148, 149, 150, 151, 152, 153, 154, 155, 156] (by decide +kernel) (by decide +kernel)
set_option maxRecDepth 20000 in
theorem gX11_clause_X11_laysBox : GoodIn wsX11_clause (wsV RX11 173 RX11 yX11_laysBox wsX11_laysBox) := goodIn_app (goodIn_of _ (by decide +kernel)) ggX11_clause_X11_laysBox
set_option maxRecDepth 20000 in
theorem ggX11_clause_X11_laysPrism : GoodIn wsX11_clause wsX11_laysPrism := goodIn_r _ [96, 2, 62, 63, 97, 98, 99, 9, 100, 45, 101, 102, 103, 104, 86, 87, 88, 89, 76, 77, 78, 105, 106, 107, 108, 109, 110, 111, 112, 113, 114, 115, 116, 117, 118, 119, 120, 121, 122, 123, 124, 125, 126, 127, 128, 129, 130, 131, 132, 133, 134, 135, 136, 137, 138, 139, 140, 141, 142, 143, 144, 145, 146, 147, 148, 149, 150, 151, 152, 153, 154, 155, 156] (by decide +kernel) (by decide +kernel)
set_option maxRecDepth 20000 in
theorem gX11_clause_X11_laysPrism : GoodIn wsX11_clause (wsV RX11 176 RX11 yX11_laysPrism wsX11_laysPrism) := goodIn_app (goodIn_of _ (by decide +kernel)) ggX11_clause_X11_laysPrism
theorem dX11_clause_0 : decode cX11_clause 0 = .ok (.aload_n 0, 1) := by decide +kernel
theorem dX11_clause_1 : decode cX11_clause 1 = .ok (.invokevirtual 130, 3) := by decide +kernel
theorem dX11_clause_4 : decode cX11_clause 4 = .ok (.istore_n 1, 1) := by decide +kernel
theorem dX11_clause_5 : decode cX11_clause 5 = .ok (.iload_n 1, 1) := by decide +kernel
theorem dX11_clause_6 : decode cX11_clause 6 = .ok (.bipush 116, 2) := by decide +kernel
theorem dX11_clause_8 : decode cX11_clause 8 = .ok (.if_icmp .eq 20, 3) := by decide +kernel
theorem dX11_clause_11 : decode cX11_clause 11 = .ok (.iload_n 1, 1) := by decide +kernel
theorem dX11_clause_12 : decode cX11_clause 12 = .ok (.bipush 98, 2) := by decide +kernel
theorem dX11_clause_14 : decode cX11_clause 14 = .ok (.if_icmp .eq 14, 3) := by decide +kernel
theorem dX11_clause_17 : decode cX11_clause 17 = .ok (.iload_n 1, 1) := by decide +kernel
theorem dX11_clause_18 : decode cX11_clause 18 = .ok (.bipush 112, 2) := by decide +kernel
theorem dX11_clause_20 : decode cX11_clause 20 = .ok (.if_icmp .eq 8, 3) := by decide +kernel
theorem dX11_clause_23 : decode cX11_clause 23 = .ok (.aload_n 0, 1) := by decide +kernel
theorem dX11_clause_24 : decode cX11_clause 24 = .ok (.invokevirtual 133, 3) := by decide +kernel
theorem dX11_clause_27 : decode cX11_clause 27 = .ok (.return_, 1) := by decide +kernel
theorem dX11_clause_28 : decode cX11_clause 28 = .ok (.aload_n 0, 1) := by decide +kernel
theorem dX11_clause_29 : decode cX11_clause 29 = .ok (.dup, 1) := by decide +kernel
theorem dX11_clause_30 : decode cX11_clause 30 = .ok (.getfield 120, 3) := by decide +kernel
theorem dX11_clause_33 : decode cX11_clause 33 = .ok (.iconst 1, 1) := by decide +kernel
theorem dX11_clause_34 : decode cX11_clause 34 = .ok (.iadd, 1) := by decide +kernel
theorem dX11_clause_35 : decode cX11_clause 35 = .ok (.putfield 120, 3) := by decide +kernel
theorem dX11_clause_38 : decode cX11_clause 38 = .ok (.aload_n 0, 1) := by decide +kernel
theorem dX11_clause_39 : decode cX11_clause 39 = .ok (.iconst 0, 1) := by decide +kernel
theorem dX11_clause_40 : decode cX11_clause 40 = .ok (.iconst 3, 1) := by decide +kernel
theorem dX11_clause_41 : decode cX11_clause 41 = .ok (.invokevirtual 153, 3) := by decide +kernel
theorem dX11_clause_44 : decode cX11_clause 44 = .ok (.istore_n 2, 1) := by decide +kernel
theorem dX11_clause_45 : decode cX11_clause 45 = .ok (.aload_n 0, 1) := by decide +kernel
theorem dX11_clause_46 : decode cX11_clause 46 = .ok (.bipush 58, 2) := by decide +kernel
theorem dX11_clause_48 : decode cX11_clause 48 = .ok (.invokevirtual 144, 3) := by decide +kernel
theorem dX11_clause_51 : decode cX11_clause 51 = .ok (.aload_n 0, 1) := by decide +kernel
theorem dX11_clause_52 : decode cX11_clause 52 = .ok (.iconst 0, 1) := by decide +kernel
theorem dX11_clause_53 : decode cX11_clause 53 = .ok (.putfield 147, 3) := by decide +kernel
theorem dX11_clause_56 : decode cX11_clause 56 = .ok (.iload_n 1, 1) := by decide +kernel
theorem dX11_clause_57 : decode cX11_clause 57 = .ok (.bipush 116, 2) := by decide +kernel
theorem dX11_clause_59 : decode cX11_clause 59 = .ok (.if_icmp .ne 10, 3) := by decide +kernel
theorem dX11_clause_62 : decode cX11_clause 62 = .ok (.aload_n 0, 1) := by decide +kernel
theorem dX11_clause_63 : decode cX11_clause 63 = .ok (.invokevirtual 156, 3) := by decide +kernel
theorem dX11_clause_66 : decode cX11_clause 66 = .ok (.goto 20, 3) := by decide +kernel
theorem dX11_clause_69 : decode cX11_clause 69 = .ok (.iload_n 1, 1) := by decide +kernel
theorem dX11_clause_70 : decode cX11_clause 70 = .ok (.bipush 98, 2) := by decide +kernel
theorem dX11_clause_72 : decode cX11_clause 72 = .ok (.if_icmp .ne 10, 3) := by decide +kernel
theorem dX11_clause_75 : decode cX11_clause 75 = .ok (.aload_n 0, 1) := by decide +kernel
theorem dX11_clause_76 : decode cX11_clause 76 = .ok (.invokevirtual 159, 3) := by decide +kernel
theorem dX11_clause_79 : decode cX11_clause 79 = .ok (.goto 7, 3) := by decide +kernel
theorem dX11_clause_82 : decode cX11_clause 82 = .ok (.aload_n 0, 1) := by decide +kernel
theorem dX11_clause_83 : decode cX11_clause 83 = .ok (.invokevirtual 162, 3) := by decide +kernel
theorem dX11_clause_86 : decode cX11_clause 86 = .ok (.aload_n 0, 1) := by decide +kernel
theorem dX11_clause_87 : decode cX11_clause 87 = .ok (.getfield 127, 3) := by decide +kernel
theorem dX11_clause_90 : decode cX11_clause 90 = .ok (.iconst (-1), 1) := by decide +kernel
theorem dX11_clause_91 : decode cX11_clause 91 = .ok (.if_icmp .ne 10, 3) := by decide +kernel
theorem dX11_clause_94 : decode cX11_clause 94 = .ok (.aload_n 0, 1) := by decide +kernel
theorem dX11_clause_95 : decode cX11_clause 95 = .ok (.getfield 165, 3) := by decide +kernel
theorem dX11_clause_98 : decode cX11_clause 98 = .ok (.ifCond .ne 4, 3) := by decide +kernel
theorem dX11_clause_101 : decode cX11_clause 101 = .ok (.return_, 1) := by decide +kernel
theorem dX11_clause_102 : decode cX11_clause 102 = .ok (.iload_n 1, 1) := by decide +kernel
theorem dX11_clause_103 : decode cX11_clause 103 = .ok (.bipush 116, 2) := by decide +kernel
