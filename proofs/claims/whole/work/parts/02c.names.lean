set_option maxRecDepth 20000 in
theorem gX8_terms_X8_at : GoodIn wsX8_terms (wsV RX8 61 RX8 yX8_at wsX8_at) := goodIn_app (goodIn_of _ (by decide +kernel)) ggX8_terms_X8_at
theorem dX8_terms_0 : decode cX8_terms 0 = .ok (.iconst 0, 1) := by decide +kernel
theorem dX8_terms_1 : decode cX8_terms 1 = .ok (.istore_n 2, 1) := by decide +kernel
theorem dX8_terms_2 : decode cX8_terms 2 = .ok (.iconst 0, 1) := by decide +kernel
theorem dX8_terms_3 : decode cX8_terms 3 = .ok (.istore_n 3, 1) := by decide +kernel
theorem dX8_terms_4 : decode cX8_terms 4 = .ok (.iload_n 3, 1) := by decide +kernel
theorem dX8_terms_5 : decode cX8_terms 5 = .ok (.aload_n 0, 1) := by decide +kernel
theorem dX8_terms_6 : decode cX8_terms 6 = .ok (.getfield 21, 3) := by decide +kernel
theorem dX8_terms_9 : decode cX8_terms 9 = .ok (.if_icmp .ge 26, 3) := by decide +kernel
theorem dX8_terms_12 : decode cX8_terms 12 = .ok (.iload_n 2, 1) := by decide +kernel
theorem dX8_terms_13 : decode cX8_terms 13 = .ok (.aload_n 0, 1) := by decide +kernel
theorem dX8_terms_14 : decode cX8_terms 14 = .ok (.iload_n 3, 1) := by decide +kernel
theorem dX8_terms_15 : decode cX8_terms 15 = .ok (.iload_n 1, 1) := by decide +kernel
theorem dX8_terms_16 : decode cX8_terms 16 = .ok (.invokevirtual 61, 3) := by decide +kernel
theorem dX8_terms_19 : decode cX8_terms 19 = .ok (.ifCond .eq 7, 3) := by decide +kernel
theorem dX8_terms_22 : decode cX8_terms 22 = .ok (.iconst 1, 1) := by decide +kernel
theorem dX8_terms_23 : decode cX8_terms 23 = .ok (.goto 4, 3) := by decide +kernel
theorem dX8_terms_26 : decode cX8_terms 26 = .ok (.iconst 0, 1) := by decide +kernel
theorem dX8_terms_27 : decode cX8_terms 27 = .ok (.iadd, 1) := by decide +kernel
theorem dX8_terms_28 : decode cX8_terms 28 = .ok (.istore_n 2, 1) := by decide +kernel
theorem dX8_terms_29 : decode cX8_terms 29 = .ok (.iinc 3 1, 3) := by decide +kernel
theorem dX8_terms_32 : decode cX8_terms 32 = .ok (.goto (-28), 3) := by decide +kernel
theorem dX8_terms_35 : decode cX8_terms 35 = .ok (.iload_n 2, 1) := by decide +kernel
theorem dX8_terms_36 : decode cX8_terms 36 = .ok (.ireturn, 1) := by decide +kernel
set_option maxRecDepth 20000 in
theorem ggX8_rowOfTerm_X8_at : GoodIn wsX8_rowOfTerm wsX8_at := goodIn_r _ [6, 1, 7, 8, 9, 10, 11] (by decide +kernel) (by decide +kernel)
set_option maxRecDepth 20000 in
theorem gX8_rowOfTerm_X8_at : GoodIn wsX8_rowOfTerm (wsV RX8 61 RX8 yX8_at wsX8_at) := goodIn_app (goodIn_of _ (by decide +kernel)) ggX8_rowOfTerm_X8_at
theorem dX8_rowOfTerm_0 : decode cX8_rowOfTerm 0 = .ok (.iconst 0, 1) := by decide +kernel
theorem dX8_rowOfTerm_1 : decode cX8_rowOfTerm 1 = .ok (.istore_n 3, 1) := by decide +kernel
theorem dX8_rowOfTerm_2 : decode cX8_rowOfTerm 2 = .ok (.iconst 0, 1) := by decide +kernel
theorem dX8_rowOfTerm_3 : decode cX8_rowOfTerm 3 = .ok (.istore 4, 2) := by decide +kernel
theorem dX8_rowOfTerm_5 : decode cX8_rowOfTerm 5 = .ok (.iload 4, 2) := by decide +kernel
theorem dX8_rowOfTerm_7 : decode cX8_rowOfTerm 7 = .ok (.aload_n 0, 1) := by decide +kernel
theorem dX8_rowOfTerm_8 : decode cX8_rowOfTerm 8 = .ok (.getfield 21, 3) := by decide +kernel
theorem dX8_rowOfTerm_11 : decode cX8_rowOfTerm 11 = .ok (.if_icmp .ge 30, 3) := by decide +kernel
theorem dX8_rowOfTerm_14 : decode cX8_rowOfTerm 14 = .ok (.aload_n 0, 1) := by decide +kernel
theorem dX8_rowOfTerm_15 : decode cX8_rowOfTerm 15 = .ok (.iload 4, 2) := by decide +kernel
theorem dX8_rowOfTerm_17 : decode cX8_rowOfTerm 17 = .ok (.iload_n 1, 1) := by decide +kernel
theorem dX8_rowOfTerm_18 : decode cX8_rowOfTerm 18 = .ok (.invokevirtual 61, 3) := by decide +kernel
theorem dX8_rowOfTerm_21 : decode cX8_rowOfTerm 21 = .ok (.ifCond .eq 14, 3) := by decide +kernel
theorem dX8_rowOfTerm_24 : decode cX8_rowOfTerm 24 = .ok (.iload_n 3, 1) := by decide +kernel
theorem dX8_rowOfTerm_25 : decode cX8_rowOfTerm 25 = .ok (.iload_n 2, 1) := by decide +kernel
theorem dX8_rowOfTerm_26 : decode cX8_rowOfTerm 26 = .ok (.if_icmp .ne 6, 3) := by decide +kernel
theorem dX8_rowOfTerm_29 : decode cX8_rowOfTerm 29 = .ok (.iload 4, 2) := by decide +kernel
theorem dX8_rowOfTerm_31 : decode cX8_rowOfTerm 31 = .ok (.ireturn, 1) := by decide +kernel
theorem dX8_rowOfTerm_32 : decode cX8_rowOfTerm 32 = .ok (.iinc 3 1, 3) := by decide +kernel
theorem dX8_rowOfTerm_35 : decode cX8_rowOfTerm 35 = .ok (.iinc 4 1, 3) := by decide +kernel
theorem dX8_rowOfTerm_38 : decode cX8_rowOfTerm 38 = .ok (.goto (-33), 3) := by decide +kernel
theorem dX8_rowOfTerm_41 : decode cX8_rowOfTerm 41 = .ok (.iconst (-1), 1) := by decide +kernel
theorem dX8_rowOfTerm_42 : decode cX8_rowOfTerm 42 = .ok (.ireturn, 1) := by decide +kernel
set_option maxRecDepth 20000 in
theorem ggX8_firstUnlike_X8_at : GoodIn wsX8_firstUnlike wsX8_at := goodIn_r _ [6, 1, 7, 8, 9, 10, 11] (by decide +kernel) (by decide +kernel)
set_option maxRecDepth 20000 in
theorem gX8_firstUnlike_X8_at : GoodIn wsX8_firstUnlike (wsV RX8 61 RX8 yX8_at wsX8_at) := goodIn_app (goodIn_of _ (by decide +kernel)) ggX8_firstUnlike_X8_at
theorem dX8_firstUnlike_0 : decode cX8_firstUnlike 0 = .ok (.iconst 0, 1) := by decide +kernel
theorem dX8_firstUnlike_1 : decode cX8_firstUnlike 1 = .ok (.istore_n 3, 1) := by decide +kernel
theorem dX8_firstUnlike_2 : decode cX8_firstUnlike 2 = .ok (.iload_n 3, 1) := by decide +kernel
theorem dX8_firstUnlike_3 : decode cX8_firstUnlike 3 = .ok (.aload_n 0, 1) := by decide +kernel
theorem dX8_firstUnlike_4 : decode cX8_firstUnlike 4 = .ok (.getfield 21, 3) := by decide +kernel
theorem dX8_firstUnlike_7 : decode cX8_firstUnlike 7 = .ok (.if_icmp .ge 26, 3) := by decide +kernel
theorem dX8_firstUnlike_10 : decode cX8_firstUnlike 10 = .ok (.aload_n 0, 1) := by decide +kernel
theorem dX8_firstUnlike_11 : decode cX8_firstUnlike 11 = .ok (.iload_n 3, 1) := by decide +kernel
theorem dX8_firstUnlike_12 : decode cX8_firstUnlike 12 = .ok (.iload_n 1, 1) := by decide +kernel
theorem dX8_firstUnlike_13 : decode cX8_firstUnlike 13 = .ok (.invokevirtual 61, 3) := by decide +kernel
theorem dX8_firstUnlike_16 : decode cX8_firstUnlike 16 = .ok (.aload_n 0, 1) := by decide +kernel
theorem dX8_firstUnlike_17 : decode cX8_firstUnlike 17 = .ok (.iload_n 3, 1) := by decide +kernel
theorem dX8_firstUnlike_18 : decode cX8_firstUnlike 18 = .ok (.iload_n 2, 1) := by decide +kernel
theorem dX8_firstUnlike_19 : decode cX8_firstUnlike 19 = .ok (.invokevirtual 61, 3) := by decide +kernel
theorem dX8_firstUnlike_22 : decode cX8_firstUnlike 22 = .ok (.if_icmp .eq 5, 3) := by decide +kernel
theorem dX8_firstUnlike_25 : decode cX8_firstUnlike 25 = .ok (.iload_n 3, 1) := by decide +kernel
theorem dX8_firstUnlike_26 : decode cX8_firstUnlike 26 = .ok (.ireturn, 1) := by decide +kernel
theorem dX8_firstUnlike_27 : decode cX8_firstUnlike 27 = .ok (.iinc 3 1, 3) := by decide +kernel
theorem dX8_firstUnlike_30 : decode cX8_firstUnlike 30 = .ok (.goto (-28), 3) := by decide +kernel
theorem dX8_firstUnlike_33 : decode cX8_firstUnlike 33 = .ok (.iconst (-1), 1) := by decide +kernel
theorem dX8_firstUnlike_34 : decode cX8_firstUnlike 34 = .ok (.ireturn, 1) := by decide +kernel
theorem dX8_greatest_0 : decode cX8_greatest 0 = .ok (.iconst 0, 1) := by decide +kernel
theorem dX8_greatest_1 : decode cX8_greatest 1 = .ok (.istore_n 2, 1) := by decide +kernel
theorem dX8_greatest_2 : decode cX8_greatest 2 = .ok (.iconst 0, 1) := by decide +kernel
theorem dX8_greatest_3 : decode cX8_greatest 3 = .ok (.istore_n 3, 1) := by decide +kernel
theorem dX8_greatest_4 : decode cX8_greatest 4 = .ok (.iload_n 3, 1) := by decide +kernel
theorem dX8_greatest_5 : decode cX8_greatest 5 = .ok (.aload_n 0, 1) := by decide +kernel
theorem dX8_greatest_6 : decode cX8_greatest 6 = .ok (.getfield 21, 3) := by decide +kernel
theorem dX8_greatest_9 : decode cX8_greatest 9 = .ok (.if_icmp .ge 23, 3) := by decide +kernel
theorem dX8_greatest_12 : decode cX8_greatest 12 = .ok (.iload_n 3, 1) := by decide +kernel
theorem dX8_greatest_13 : decode cX8_greatest 13 = .ok (.aload_n 1, 1) := by decide +kernel
theorem dX8_greatest_14 : decode cX8_greatest 14 = .ok (.arraylength, 1) := by decide +kernel
theorem dX8_greatest_15 : decode cX8_greatest 15 = .ok (.if_icmp .ge 17, 3) := by decide +kernel
theorem dX8_greatest_18 : decode cX8_greatest 18 = .ok (.iload_n 2, 1) := by decide +kernel
theorem dX8_greatest_19 : decode cX8_greatest 19 = .ok (.aload_n 1, 1) := by decide +kernel
theorem dX8_greatest_20 : decode cX8_greatest 20 = .ok (.iload_n 3, 1) := by decide +kernel
theorem dX8_greatest_21 : decode cX8_greatest 21 = .ok (.iaload, 1) := by decide +kernel
theorem dX8_greatest_22 : decode cX8_greatest 22 = .ok (.invokestatic 64, 3) := by decide +kernel
theorem dX8_greatest_25 : decode cX8_greatest 25 = .ok (.istore_n 2, 1) := by decide +kernel
theorem dX8_greatest_26 : decode cX8_greatest 26 = .ok (.iinc 3 1, 3) := by decide +kernel
theorem dX8_greatest_29 : decode cX8_greatest 29 = .ok (.goto (-25), 3) := by decide +kernel
theorem dX8_greatest_32 : decode cX8_greatest 32 = .ok (.iload_n 2, 1) := by decide +kernel
theorem dX8_greatest_33 : decode cX8_greatest 33 = .ok (.ireturn, 1) := by decide +kernel
theorem dX9_init_0 : decode cX9_init 0 = .ok (.aload_n 0, 1) := by decide +kernel
theorem dX9_init_1 : decode cX9_init 1 = .ok (.invokespecial 1, 3) := by decide +kernel
theorem dX9_init_4 : decode cX9_init 4 = .ok (.aload_n 0, 1) := by decide +kernel
theorem dX9_init_5 : decode cX9_init 5 = .ok (.sipush 600, 3) := by decide +kernel
theorem dX9_init_8 : decode cX9_init 8 = .ok (.newarray .byte, 2) := by decide +kernel
theorem dX9_init_10 : decode cX9_init 10 = .ok (.putfield 9, 3) := by decide +kernel
theorem dX9_init_13 : decode cX9_init 13 = .ok (.return_, 1) := by decide +kernel
theorem dX9_bytesIn_0 : decode cX9_bytesIn 0 = .ok (.iconst 0, 1) := by decide +kernel
theorem dX9_bytesIn_1 : decode cX9_bytesIn 1 = .ok (.istore_n 1, 1) := by decide +kernel
theorem dX9_bytesIn_2 : decode cX9_bytesIn 2 = .ok (.bipush 24, 2) := by decide +kernel
theorem dX9_bytesIn_4 : decode cX9_bytesIn 4 = .ok (.istore_n 2, 1) := by decide +kernel
theorem dX9_bytesIn_5 : decode cX9_bytesIn 5 = .ok (.iload_n 2, 1) := by decide +kernel
theorem dX9_bytesIn_6 : decode cX9_bytesIn 6 = .ok (.ifCond .lt 27, 3) := by decide +kernel
theorem dX9_bytesIn_9 : decode cX9_bytesIn 9 = .ok (.iload_n 1, 1) := by decide +kernel
theorem dX9_bytesIn_10 : decode cX9_bytesIn 10 = .ok (.iload_n 0, 1) := by decide +kernel
theorem dX9_bytesIn_11 : decode cX9_bytesIn 11 = .ok (.iload_n 2, 1) := by decide +kernel
theorem dX9_bytesIn_12 : decode cX9_bytesIn 12 = .ok (.ishr, 1) := by decide +kernel
theorem dX9_bytesIn_13 : decode cX9_bytesIn 13 = .ok (.sipush 255, 3) := by decide +kernel
theorem dX9_bytesIn_16 : decode cX9_bytesIn 16 = .ok (.iand, 1) := by decide +kernel
theorem dX9_bytesIn_17 : decode cX9_bytesIn 17 = .ok (.ifCond .eq 7, 3) := by decide +kernel
theorem dX9_bytesIn_20 : decode cX9_bytesIn 20 = .ok (.iconst 1, 1) := by decide +kernel
theorem dX9_bytesIn_21 : decode cX9_bytesIn 21 = .ok (.goto 4, 3) := by decide +kernel
theorem dX9_bytesIn_24 : decode cX9_bytesIn 24 = .ok (.iconst 0, 1) := by decide +kernel
theorem dX9_bytesIn_25 : decode cX9_bytesIn 25 = .ok (.iadd, 1) := by decide +kernel
theorem dX9_bytesIn_26 : decode cX9_bytesIn 26 = .ok (.istore_n 1, 1) := by decide +kernel
theorem dX9_bytesIn_27 : decode cX9_bytesIn 27 = .ok (.iinc 2 (-8), 3) := by decide +kernel
theorem dX9_bytesIn_30 : decode cX9_bytesIn 30 = .ok (.goto (-25), 3) := by decide +kernel
theorem dX9_bytesIn_33 : decode cX9_bytesIn 33 = .ok (.iload_n 1, 1) := by decide +kernel
theorem dX9_bytesIn_34 : decode cX9_bytesIn 34 = .ok (.ireturn, 1) := by decide +kernel
theorem dX9_take_0 : decode cX9_take 0 = .ok (.bipush 24, 2) := by decide +kernel
theorem dX9_take_2 : decode cX9_take 2 = .ok (.istore_n 2, 1) := by decide +kernel
theorem dX9_take_3 : decode cX9_take 3 = .ok (.iload_n 2, 1) := by decide +kernel
theorem dX9_take_4 : decode cX9_take 4 = .ok (.ifCond .lt 52, 3) := by decide +kernel
theorem dX9_take_7 : decode cX9_take 7 = .ok (.iload_n 1, 1) := by decide +kernel
theorem dX9_take_8 : decode cX9_take 8 = .ok (.iload_n 2, 1) := by decide +kernel
theorem dX9_take_9 : decode cX9_take 9 = .ok (.ishr, 1) := by decide +kernel
theorem dX9_take_10 : decode cX9_take 10 = .ok (.sipush 255, 3) := by decide +kernel
theorem dX9_take_13 : decode cX9_take 13 = .ok (.iand, 1) := by decide +kernel
theorem dX9_take_14 : decode cX9_take 14 = .ok (.istore_n 3, 1) := by decide +kernel
theorem dX9_take_15 : decode cX9_take 15 = .ok (.iload_n 3, 1) := by decide +kernel
theorem dX9_take_16 : decode cX9_take 16 = .ok (.ifCond .eq 34, 3) := by decide +kernel
theorem dX9_take_19 : decode cX9_take 19 = .ok (.aload_n 0, 1) := by decide +kernel
theorem dX9_take_20 : decode cX9_take 20 = .ok (.getfield 13, 3) := by decide +kernel
theorem dX9_take_23 : decode cX9_take 23 = .ok (.sipush 600, 3) := by decide +kernel
theorem dX9_take_26 : decode cX9_take 26 = .ok (.if_icmp .ge 24, 3) := by decide +kernel
theorem dX9_take_29 : decode cX9_take 29 = .ok (.aload_n 0, 1) := by decide +kernel
theorem dX9_take_30 : decode cX9_take 30 = .ok (.getfield 9, 3) := by decide +kernel
theorem dX9_take_33 : decode cX9_take 33 = .ok (.aload_n 0, 1) := by decide +kernel
theorem dX9_take_34 : decode cX9_take 34 = .ok (.getfield 13, 3) := by decide +kernel
theorem dX9_take_37 : decode cX9_take 37 = .ok (.iload_n 3, 1) := by decide +kernel
theorem dX9_take_38 : decode cX9_take 38 = .ok (.i2b, 1) := by decide +kernel
theorem dX9_take_39 : decode cX9_take 39 = .ok (.bastore, 1) := by decide +kernel
theorem dX9_take_40 : decode cX9_take 40 = .ok (.aload_n 0, 1) := by decide +kernel
theorem dX9_take_41 : decode cX9_take 41 = .ok (.dup, 1) := by decide +kernel
theorem dX9_take_42 : decode cX9_take 42 = .ok (.getfield 13, 3) := by decide +kernel
theorem dX9_take_45 : decode cX9_take 45 = .ok (.iconst 1, 1) := by decide +kernel
theorem dX9_take_46 : decode cX9_take 46 = .ok (.iadd, 1) := by decide +kernel
theorem dX9_take_47 : decode cX9_take 47 = .ok (.putfield 13, 3) := by decide +kernel
theorem dX9_take_50 : decode cX9_take 50 = .ok (.iinc 2 (-8), 3) := by decide +kernel
theorem dX9_take_53 : decode cX9_take 53 = .ok (.goto (-50), 3) := by decide +kernel
theorem dX9_take_56 : decode cX9_take 56 = .ok (.return_, 1) := by decide +kernel
set_option maxRecDepth 20000 in
theorem ggX10_init_X9_init : GoodIn wsX10_init wsX9_init := goodIn_r _ [48, 49, 2, 3, 50, 51, 120, 121] (by decide +kernel) (by decide +kernel)
set_option maxRecDepth 20000 in
theorem gX10_init_X9_init_n9 : GoodIn wsX10_init (wsX9_init) := ggX10_init_X9_init
set_option maxRecDepth 20000 in
theorem ggX10_init_X5_init : GoodIn wsX10_init wsX5_init := goodIn_r _ [54, 55, 2, 3, 45, 56, 57, 135, 136, 137, 138, 139, 140, 141] (by decide +kernel) (by decide +kernel)
set_option maxRecDepth 20000 in
theorem gX10_init_X5_init : GoodIn wsX10_init (wsX5_init) := ggX10_init_X5_init
set_option maxRecDepth 20000 in
theorem ggX10_init_X1_init : GoodIn wsX10_init wsX1_init := goodIn_r _ [59, 60, 2, 3, 45, 61, 62, 63, 64, 65, 142, 143, 144, 145, 146, 147] (by decide +kernel) (by decide +kernel)
set_option maxRecDepth 20000 in
theorem gX10_init_X1_init_n27 : GoodIn wsX10_init (wsX1_init) := ggX10_init_X1_init
set_option maxRecDepth 20000 in
theorem ggX10_init_X2_init : GoodIn wsX10_init wsX2_init := goodIn_r _ [68, 69, 2, 3, 45, 70, 71, 148, 149] (by decide +kernel) (by decide +kernel)
set_option maxRecDepth 20000 in
theorem gX10_init_X2_init : GoodIn wsX10_init (wsX2_init) := ggX10_init_X2_init
set_option maxRecDepth 20000 in
theorem ggX10_init_X0_init : GoodIn wsX10_init wsX0_init := goodIn_r _ [73, 74, 2, 3, 45, 75, 76, 77, 78, 79, 150, 151, 152, 153, 154, 155, 156, 157, 158, 159, 160, 161, 162] (by decide +kernel) (by decide +kernel)
set_option maxRecDepth 20000 in
theorem gX10_init_X0_init_n43 : GoodIn wsX10_init (wsX0_init) := ggX10_init_X0_init
set_option maxRecDepth 20000 in
theorem ggX10_init_X8_init : GoodIn wsX10_init wsX8_init := goodIn_r _ [81, 82, 2, 3, 45, 83, 84, 85, 163, 164, 165, 166] (by decide +kernel) (by decide +kernel)
set_option maxRecDepth 20000 in
theorem gX10_init_X8_init_n50 : GoodIn wsX10_init (wsX8_init) := ggX10_init_X8_init
set_option maxRecDepth 20000 in
theorem ggX10_init_X3_init : GoodIn wsX10_init wsX3_init := goodIn_r _ [87, 88, 2, 3, 45, 89, 90, 91, 92, 93, 167, 168, 169, 170, 171, 172, 173] (by decide +kernel) (by decide +kernel)
set_option maxRecDepth 20000 in
theorem gX10_init_X3_init_n60 : GoodIn wsX10_init (wsX3_init) := ggX10_init_X3_init
set_option maxRecDepth 20000 in
theorem ggX10_init_X4_init : GoodIn wsX10_init wsX4_init := goodIn_r _ [95, 96, 2, 3, 45, 97, 98, 99, 100, 174, 175, 176, 177, 178, 179, 180] (by decide +kernel) (by decide +kernel)
set_option maxRecDepth 20000 in
theorem gX10_init_X4_init_n67 : GoodIn wsX10_init (wsX4_init) := ggX10_init_X4_init
set_option maxRecDepth 20000 in
theorem ggX10_init_X6_init : GoodIn wsX10_init wsX6_init := goodIn_r _ [103, 104, 2, 3, 45, 105, 106, 107, 181, 182, 183, 184] (by decide +kernel) (by decide +kernel)
set_option maxRecDepth 20000 in
theorem gX10_init_X6_init : GoodIn wsX10_init (wsX6_init) := ggX10_init_X6_init
set_option maxRecDepth 20000 in
theorem ggX10_init_X7_init : GoodIn wsX10_init wsX7_init := goodIn_r _ [109, 110, 2, 3, 111, 45, 112, 113, 114, 115, 116, 117, 118, 91, 119, 185, 186, 187, 188, 189, 190, 191, 192, 193, 194] (by decide +kernel) (by decide +kernel)
set_option maxRecDepth 20000 in
theorem gX10_init_X7_init_n83 : GoodIn wsX10_init (wsX7_init) := ggX10_init_X7_init
theorem dX10_init_0 : decode cX10_init 0 = .ok (.aload_n 0, 1) := by decide +kernel
theorem dX10_init_1 : decode cX10_init 1 = .ok (.invokespecial 1, 3) := by decide +kernel
theorem dX10_init_4 : decode cX10_init 4 = .ok (.aload_n 0, 1) := by decide +kernel
theorem dX10_init_5 : decode cX10_init 5 = .ok (.new 7, 3) := by decide +kernel
theorem dX10_init_8 : decode cX10_init 8 = .ok (.dup, 1) := by decide +kernel
theorem dX10_init_9 : decode cX10_init 9 = .ok (.invokespecial 9, 3) := by decide +kernel
theorem dX10_init_12 : decode cX10_init 12 = .ok (.putfield 10, 3) := by decide +kernel
theorem dX10_init_15 : decode cX10_init 15 = .ok (.aload_n 0, 1) := by decide +kernel
theorem dX10_init_16 : decode cX10_init 16 = .ok (.new 16, 3) := by decide +kernel
theorem dX10_init_19 : decode cX10_init 19 = .ok (.dup, 1) := by decide +kernel
theorem dX10_init_20 : decode cX10_init 20 = .ok (.aload_n 0, 1) := by decide +kernel
theorem dX10_init_21 : decode cX10_init 21 = .ok (.getfield 10, 3) := by decide +kernel
theorem dX10_init_24 : decode cX10_init 24 = .ok (.invokespecial 18, 3) := by decide +kernel
theorem dX10_init_27 : decode cX10_init 27 = .ok (.putfield 21, 3) := by decide +kernel
theorem dX10_init_30 : decode cX10_init 30 = .ok (.aload_n 0, 1) := by decide +kernel
theorem dX10_init_31 : decode cX10_init 31 = .ok (.new 25, 3) := by decide +kernel
theorem dX10_init_34 : decode cX10_init 34 = .ok (.dup, 1) := by decide +kernel
theorem dX10_init_35 : decode cX10_init 35 = .ok (.invokespecial 27, 3) := by decide +kernel
theorem dX10_init_38 : decode cX10_init 38 = .ok (.putfield 28, 3) := by decide +kernel
theorem dX10_init_41 : decode cX10_init 41 = .ok (.aload_n 0, 1) := by decide +kernel
theorem dX10_init_42 : decode cX10_init 42 = .ok (.new 32, 3) := by decide +kernel
theorem dX10_init_45 : decode cX10_init 45 = .ok (.dup, 1) := by decide +kernel
theorem dX10_init_46 : decode cX10_init 46 = .ok (.aload_n 0, 1) := by decide +kernel
theorem dX10_init_47 : decode cX10_init 47 = .ok (.getfield 28, 3) := by decide +kernel
theorem dX10_init_50 : decode cX10_init 50 = .ok (.invokespecial 34, 3) := by decide +kernel
theorem dX10_init_53 : decode cX10_init 53 = .ok (.putfield 37, 3) := by decide +kernel
theorem dX10_init_56 : decode cX10_init 56 = .ok (.aload_n 0, 1) := by decide +kernel
theorem dX10_init_57 : decode cX10_init 57 = .ok (.new 41, 3) := by decide +kernel
theorem dX10_init_60 : decode cX10_init 60 = .ok (.dup, 1) := by decide +kernel
theorem dX10_init_61 : decode cX10_init 61 = .ok (.invokespecial 43, 3) := by decide +kernel
theorem dX10_init_64 : decode cX10_init 64 = .ok (.putfield 44, 3) := by decide +kernel
theorem dX10_init_67 : decode cX10_init 67 = .ok (.aload_n 0, 1) := by decide +kernel
theorem dX10_init_68 : decode cX10_init 68 = .ok (.new 48, 3) := by decide +kernel
theorem dX10_init_71 : decode cX10_init 71 = .ok (.dup, 1) := by decide +kernel
theorem dX10_init_72 : decode cX10_init 72 = .ok (.invokespecial 50, 3) := by decide +kernel
theorem dX10_init_75 : decode cX10_init 75 = .ok (.putfield 51, 3) := by decide +kernel
theorem dX10_init_78 : decode cX10_init 78 = .ok (.aload_n 0, 1) := by decide +kernel
theorem dX10_init_79 : decode cX10_init 79 = .ok (.new 48, 3) := by decide +kernel
theorem dX10_init_82 : decode cX10_init 82 = .ok (.dup, 1) := by decide +kernel
theorem dX10_init_83 : decode cX10_init 83 = .ok (.invokespecial 50, 3) := by decide +kernel
theorem dX10_init_86 : decode cX10_init 86 = .ok (.putfield 55, 3) := by decide +kernel
theorem dX10_init_89 : decode cX10_init 89 = .ok (.aload_n 0, 1) := by decide +kernel
theorem dX10_init_90 : decode cX10_init 90 = .ok (.new 58, 3) := by decide +kernel
theorem dX10_init_93 : decode cX10_init 93 = .ok (.dup, 1) := by decide +kernel
theorem dX10_init_94 : decode cX10_init 94 = .ok (.invokespecial 60, 3) := by decide +kernel
theorem dX10_init_97 : decode cX10_init 97 = .ok (.putfield 61, 3) := by decide +kernel
theorem dX10_init_100 : decode cX10_init 100 = .ok (.aload_n 0, 1) := by decide +kernel
theorem dX10_init_101 : decode cX10_init 101 = .ok (.new 65, 3) := by decide +kernel
theorem dX10_init_104 : decode cX10_init 104 = .ok (.dup, 1) := by decide +kernel
theorem dX10_init_105 : decode cX10_init 105 = .ok (.invokespecial 67, 3) := by decide +kernel
theorem dX10_init_108 : decode cX10_init 108 = .ok (.putfield 68, 3) := by decide +kernel
theorem dX10_init_111 : decode cX10_init 111 = .ok (.aload_n 0, 1) := by decide +kernel
theorem dX10_init_112 : decode cX10_init 112 = .ok (.new 72, 3) := by decide +kernel
theorem dX10_init_115 : decode cX10_init 115 = .ok (.dup, 1) := by decide +kernel
theorem dX10_init_116 : decode cX10_init 116 = .ok (.aload_n 0, 1) := by decide +kernel
theorem dX10_init_117 : decode cX10_init 117 = .ok (.getfield 68, 3) := by decide +kernel
theorem dX10_init_120 : decode cX10_init 120 = .ok (.invokespecial 74, 3) := by decide +kernel
theorem dX10_init_123 : decode cX10_init 123 = .ok (.putfield 77, 3) := by decide +kernel
theorem dX10_init_126 : decode cX10_init 126 = .ok (.aload_n 0, 1) := by decide +kernel
theorem dX10_init_127 : decode cX10_init 127 = .ok (.new 81, 3) := by decide +kernel
theorem dX10_init_130 : decode cX10_init 130 = .ok (.dup, 1) := by decide +kernel
theorem dX10_init_131 : decode cX10_init 131 = .ok (.invokespecial 83, 3) := by decide +kernel
theorem dX10_init_134 : decode cX10_init 134 = .ok (.putfield 84, 3) := by decide +kernel
theorem dX10_init_137 : decode cX10_init 137 = .ok (.aload_n 0, 1) := by decide +kernel
theorem dX10_init_138 : decode cX10_init 138 = .ok (.bipush 12, 2) := by decide +kernel
theorem dX10_init_140 : decode cX10_init 140 = .ok (.newarray .int, 2) := by decide +kernel
theorem dX10_init_142 : decode cX10_init 142 = .ok (.putfield 88, 3) := by decide +kernel
theorem dX10_init_145 : decode cX10_init 145 = .ok (.return_, 1) := by decide +kernel
set_option maxRecDepth 20000 in
theorem ggX10_feed_X9_bytesIn : GoodIn wsX10_feed wsX9_bytesIn := goodIn_r _ [6] (by decide +kernel) (by decide +kernel)
set_option maxRecDepth 20000 in
theorem gX10_feed_X9_bytesIn : GoodIn wsX10_feed (va_wsS RX10 92 yX9_bytesIn wsX9_bytesIn) := goodIn_app (goodIn_of _ (by decide +kernel)) ggX10_feed_X9_bytesIn
set_option maxRecDepth 20000 in
theorem ggX10_feed_X9_take : GoodIn wsX10_feed wsX9_take := goodIn_r _ [10, 11, 12, 26, 27] (by decide +kernel) (by decide +kernel)
set_option maxRecDepth 20000 in
theorem gX10_feed_X9_take : GoodIn wsX10_feed (wsV RX10 100 RX9 yX9_take wsX9_take) := goodIn_app (goodIn_of _ (by decide +kernel)) ggX10_feed_X9_take
theorem dX10_feed_0 : decode cX10_feed 0 = .ok (.iload_n 1, 1) := by decide +kernel
theorem dX10_feed_1 : decode cX10_feed 1 = .ok (.invokestatic 92, 3) := by decide +kernel
theorem dX10_feed_4 : decode cX10_feed 4 = .ok (.iload_n 2, 1) := by decide +kernel
theorem dX10_feed_5 : decode cX10_feed 5 = .ok (.invokestatic 92, 3) := by decide +kernel
theorem dX10_feed_8 : decode cX10_feed 8 = .ok (.iadd, 1) := by decide +kernel
theorem dX10_feed_9 : decode cX10_feed 9 = .ok (.iload_n 3, 1) := by decide +kernel
theorem dX10_feed_10 : decode cX10_feed 10 = .ok (.invokestatic 92, 3) := by decide +kernel
theorem dX10_feed_13 : decode cX10_feed 13 = .ok (.iadd, 1) := by decide +kernel
theorem dX10_feed_14 : decode cX10_feed 14 = .ok (.iload 4, 2) := by decide +kernel
theorem dX10_feed_16 : decode cX10_feed 16 = .ok (.invokestatic 92, 3) := by decide +kernel
theorem dX10_feed_19 : decode cX10_feed 19 = .ok (.iadd, 1) := by decide +kernel
theorem dX10_feed_20 : decode cX10_feed 20 = .ok (.iload 5, 2) := by decide +kernel
theorem dX10_feed_22 : decode cX10_feed 22 = .ok (.invokestatic 92, 3) := by decide +kernel
theorem dX10_feed_25 : decode cX10_feed 25 = .ok (.iadd, 1) := by decide +kernel
theorem dX10_feed_26 : decode cX10_feed 26 = .ok (.istore 6, 2) := by decide +kernel
theorem dX10_feed_28 : decode cX10_feed 28 = .ok (.aload_n 0, 1) := by decide +kernel
theorem dX10_feed_29 : decode cX10_feed 29 = .ok (.getfield 10, 3) := by decide +kernel
theorem dX10_feed_32 : decode cX10_feed 32 = .ok (.getfield 96, 3) := by decide +kernel
theorem dX10_feed_35 : decode cX10_feed 35 = .ok (.iload 6, 2) := by decide +kernel
theorem dX10_feed_37 : decode cX10_feed 37 = .ok (.iadd, 1) := by decide +kernel
theorem dX10_feed_38 : decode cX10_feed 38 = .ok (.sipush 600, 3) := by decide +kernel
theorem dX10_feed_41 : decode cX10_feed 41 = .ok (.if_icmp .le 5, 3) := by decide +kernel
theorem dX10_feed_44 : decode cX10_feed 44 = .ok (.iconst (-1), 1) := by decide +kernel
theorem dX10_feed_45 : decode cX10_feed 45 = .ok (.ireturn, 1) := by decide +kernel
theorem dX10_feed_46 : decode cX10_feed 46 = .ok (.aload_n 0, 1) := by decide +kernel
theorem dX10_feed_47 : decode cX10_feed 47 = .ok (.getfield 10, 3) := by decide +kernel
theorem dX10_feed_50 : decode cX10_feed 50 = .ok (.iload_n 1, 1) := by decide +kernel
theorem dX10_feed_51 : decode cX10_feed 51 = .ok (.invokevirtual 100, 3) := by decide +kernel
theorem dX10_feed_54 : decode cX10_feed 54 = .ok (.aload_n 0, 1) := by decide +kernel
theorem dX10_feed_55 : decode cX10_feed 55 = .ok (.getfield 10, 3) := by decide +kernel
theorem dX10_feed_58 : decode cX10_feed 58 = .ok (.iload_n 2, 1) := by decide +kernel
theorem dX10_feed_59 : decode cX10_feed 59 = .ok (.invokevirtual 100, 3) := by decide +kernel
theorem dX10_feed_62 : decode cX10_feed 62 = .ok (.aload_n 0, 1) := by decide +kernel
theorem dX10_feed_63 : decode cX10_feed 63 = .ok (.getfield 10, 3) := by decide +kernel
theorem dX10_feed_66 : decode cX10_feed 66 = .ok (.iload_n 3, 1) := by decide +kernel
theorem dX10_feed_67 : decode cX10_feed 67 = .ok (.invokevirtual 100, 3) := by decide +kernel
theorem dX10_feed_70 : decode cX10_feed 70 = .ok (.aload_n 0, 1) := by decide +kernel
theorem dX10_feed_71 : decode cX10_feed 71 = .ok (.getfield 10, 3) := by decide +kernel
theorem dX10_feed_74 : decode cX10_feed 74 = .ok (.iload 4, 2) := by decide +kernel
theorem dX10_feed_76 : decode cX10_feed 76 = .ok (.invokevirtual 100, 3) := by decide +kernel
theorem dX10_feed_79 : decode cX10_feed 79 = .ok (.aload_n 0, 1) := by decide +kernel
theorem dX10_feed_80 : decode cX10_feed 80 = .ok (.getfield 10, 3) := by decide +kernel
theorem dX10_feed_83 : decode cX10_feed 83 = .ok (.iload 5, 2) := by decide +kernel
theorem dX10_feed_85 : decode cX10_feed 85 = .ok (.invokevirtual 100, 3) := by decide +kernel
theorem dX10_feed_88 : decode cX10_feed 88 = .ok (.aload_n 0, 1) := by decide +kernel
theorem dX10_feed_89 : decode cX10_feed 89 = .ok (.getfield 10, 3) := by decide +kernel
theorem dX10_feed_92 : decode cX10_feed 92 = .ok (.getfield 96, 3) := by decide +kernel
theorem dX10_feed_95 : decode cX10_feed 95 = .ok (.ireturn, 1) := by decide +kernel
theorem dX10_end_0 : decode cX10_end 0 = .ok (.iload_n 1, 1) := by decide +kernel
theorem dX10_end_1 : decode cX10_end 1 = .ok (.ifCond .lt 14, 3) := by decide +kernel
theorem dX10_end_4 : decode cX10_end 4 = .ok (.iload_n 1, 1) := by decide +kernel
theorem dX10_end_5 : decode cX10_end 5 = .ok (.aload_n 0, 1) := by decide +kernel
theorem dX10_end_6 : decode cX10_end 6 = .ok (.getfield 10, 3) := by decide +kernel
theorem dX10_end_9 : decode cX10_end 9 = .ok (.getfield 96, 3) := by decide +kernel
theorem dX10_end_12 : decode cX10_end 12 = .ok (.if_icmp .le 5, 3) := by decide +kernel
theorem dX10_end_15 : decode cX10_end 15 = .ok (.iconst 0, 1) := by decide +kernel
theorem dX10_end_16 : decode cX10_end 16 = .ok (.ireturn, 1) := by decide +kernel
theorem dX10_end_17 : decode cX10_end 17 = .ok (.aload_n 0, 1) := by decide +kernel
theorem dX10_end_18 : decode cX10_end 18 = .ok (.getfield 10, 3) := by decide +kernel
theorem dX10_end_21 : decode cX10_end 21 = .ok (.iload_n 1, 1) := by decide +kernel
theorem dX10_end_22 : decode cX10_end 22 = .ok (.putfield 96, 3) := by decide +kernel
theorem dX10_end_25 : decode cX10_end 25 = .ok (.iconst 1, 1) := by decide +kernel
theorem dX10_end_26 : decode cX10_end 26 = .ok (.ireturn, 1) := by decide +kernel
set_option maxRecDepth 20000 in
theorem ggX10_fault_X5_firstFault : GoodIn wsX10_fault wsX5_firstFault := goodIn_r _ [6, 7, 8, 9, 10, 11, 5, 12, 13, 14, 15, 16, 17, 18, 19, 20, 21, 22, 23, 24, 25, 26, 27, 28, 29, 30, 31, 32, 33, 34, 35, 36, 37, 38, 39, 40, 41, 42, 43, 44, 45, 46, 47, 48, 49, 50, 51, 52, 53, 54, 55, 56, 57, 58, 59, 60, 61, 62, 63, 64, 65, 66, 67, 81, 82, 83, 84, 85, 86, 87, 88, 89] (by decide +kernel) (by decide +kernel)
set_option maxRecDepth 20000 in
theorem gX10_fault_X5_firstFault : GoodIn wsX10_fault (wsV RX10 104 RX5 yX5_firstFault wsX5_firstFault) := goodIn_app (goodIn_of _ (by decide +kernel)) ggX10_fault_X5_firstFault
theorem dX10_fault_0 : decode cX10_fault 0 = .ok (.aload_n 0, 1) := by decide +kernel
theorem dX10_fault_1 : decode cX10_fault 1 = .ok (.getfield 21, 3) := by decide +kernel
theorem dX10_fault_4 : decode cX10_fault 4 = .ok (.invokevirtual 104, 3) := by decide +kernel
theorem dX10_fault_7 : decode cX10_fault 7 = .ok (.ireturn, 1) := by decide +kernel
set_option maxRecDepth 20000 in
theorem ggX10_text_X5_firstFault : GoodIn wsX10_text wsX5_firstFault := goodIn_r _ [12, 13, 14, 15, 16, 17, 11, 18, 19, 20, 21, 22, 23, 24, 25, 26, 27, 28, 29, 30, 31, 32, 33, 34, 35, 36, 37, 38, 39, 40, 41, 42, 43, 44, 45, 46, 47, 48, 49, 50, 51, 52, 53, 54, 55, 56, 57, 58, 59, 60, 61, 62, 63, 64, 65, 66, 67, 68, 69, 70, 71, 72, 73, 303, 304, 305, 306, 307, 308, 309, 301, 302] (by decide +kernel) (by decide +kernel)
set_option maxRecDepth 20000 in
theorem gX10_text_X5_firstFault : GoodIn wsX10_text (wsV RX10 104 RX5 yX5_firstFault wsX5_firstFault) := goodIn_app (goodIn_of _ (by decide +kernel)) ggX10_text_X5_firstFault
set_option maxRecDepth 20000 in
theorem ggX10_text_X8_clear : GoodIn wsX10_text wsX8_clear := goodIn_r _ [78, 79, 310, 311, 312, 313] (by decide +kernel) (by decide +kernel)
set_option maxRecDepth 20000 in
theorem gX10_text_X8_clear : GoodIn wsX10_text (wsV RX10 111 RX8 yX8_clear wsX8_clear) := goodIn_app (goodIn_of _ (by decide +kernel)) ggX10_text_X8_clear
set_option maxRecDepth 20000 in
theorem ggX10_text_X10_forgetPicks : GoodIn wsX10_text wsX10_forgetPicks := goodIn_r _ [84, 85, 86, 74, 75, 76, 77, 78, 79, 282, 283, 284, 285, 286, 287, 288, 289, 290, 291, 292, 293, 294, 310, 311, 312, 313] (by decide +kernel) (by decide +kernel)
set_option maxRecDepth 20000 in
theorem gX10_text_X10_forgetPicks : GoodIn wsX10_text (wsV RX10 114 RX10 yX10_forgetPicks wsX10_forgetPicks) := goodIn_app (goodIn_of _ (by decide +kernel)) ggX10_text_X10_forgetPicks
set_option maxRecDepth 20000 in
theorem ggX10_text_X5_begin : GoodIn wsX10_text wsX5_begin := goodIn_r _ [18, 14, 13, 303, 304, 305, 306, 307, 308, 309] (by decide +kernel) (by decide +kernel)
set_option maxRecDepth 20000 in
theorem gX10_text_X5_begin : GoodIn wsX10_text (wsV RX10 117 RX5 yX5_begin wsX5_begin) := goodIn_app (goodIn_of _ (by decide +kernel)) ggX10_text_X5_begin
set_option maxRecDepth 20000 in
theorem ggX10_text_X5_readClause : GoodIn wsX10_text wsX5_readClause := goodIn_r _ [22, 23, 24, 13, 14, 25, 26, 27, 28, 11, 29, 30, 31, 32, 33, 34, 35, 36, 37, 38, 39, 40, 41, 42, 43, 44, 45, 46, 47, 48, 49, 50, 51, 52, 53, 54, 55, 56, 57, 58, 59, 60, 61, 62, 63, 64, 65, 66, 67, 68, 69, 303, 304, 305, 306, 307, 308, 309, 301, 302] (by decide +kernel) (by decide +kernel)
set_option maxRecDepth 20000 in
theorem gX10_text_X5_readClause : GoodIn wsX10_text (wsV RX10 120 RX5 yX5_readClause wsX5_readClause) := goodIn_app (goodIn_of _ (by decide +kernel)) ggX10_text_X5_readClause
set_option maxRecDepth 20000 in
theorem ggX10_text_X2_build : GoodIn wsX10_text wsX2_build := goodIn_r _ [93, 94, 95, 96, 97, 98, 99, 100, 101, 102, 103, 104, 105, 106, 107, 108, 109, 110, 111, 112, 113, 114, 115, 116, 117, 118, 119, 120, 121, 122, 92, 123, 124, 125, 83, 126, 127, 128, 129, 130, 131, 132, 133, 134, 135, 136, 137, 138, 139, 140, 141, 142, 143, 144, 145, 303, 304, 305, 306, 307, 308, 309, 314, 315, 295, 296, 297, 298, 299, 300] (by decide +kernel) (by decide +kernel)
set_option maxRecDepth 20000 in
theorem gX10_text_X2_build : GoodIn wsX10_text (wsV RX10 123 RX2 yX2_build wsX2_build) := goodIn_app (goodIn_of _ (by decide +kernel)) ggX10_text_X2_build
set_option maxRecDepth 20000 in
theorem ggX10_text_X10_weighFrom : GoodIn wsX10_text wsX10_weighFrom := goodIn_r _ [149, 2, 3, 150, 151, 152, 83, 153, 154, 155, 156, 4, 157, 158, 159, 160, 161, 162, 163, 164, 165, 166, 167, 168, 169, 170, 171, 172, 109, 110, 111, 173, 174, 175, 176, 177, 178, 179, 180, 181, 182, 183, 184, 185, 186, 187, 188, 189, 118, 106, 119, 190, 191, 192, 193, 194, 195, 196, 197, 198, 199, 200, 201, 202, 203, 204, 205, 206, 207, 208, 209, 210, 211, 212, 213, 214, 215, 216, 217, 218, 219, 220, 221, 222, 223, 224, 225, 226, 227, 228, 229, 230, 231, 232, 77, 233, 234, 79, 235, 236, 237, 238, 239, 240, 241, 242, 243, 244, 245, 246, 247, 248, 249, 250, 251, 252, 253, 254, 255, 256, 257, 258, 259, 260, 261, 98, 99, 100, 262, 263, 264, 265, 266, 267, 268, 269, 270, 271, 272, 273, 274, 275, 276, 277, 278, 279, 280, 282, 283, 284, 285, 286, 287, 288, 289, 290, 291, 292, 293, 294, 295, 296, 297, 298, 299, 300, 316, 317, 318, 319, 320, 321, 322, 323, 324, 325, 326, 327, 328, 310, 311, 312, 313] (by decide +kernel) (by decide +kernel)
set_option maxRecDepth 20000 in
theorem gX10_text_X10_weighFrom : GoodIn wsX10_text (wsV RX10 127 RX10 yX10_weighFrom wsX10_weighFrom) := goodIn_app (goodIn_of _ (by decide +kernel)) ggX10_text_X10_weighFrom
set_option maxRecDepth 20000 in
theorem ggX10_text_X5_goesOn : GoodIn wsX10_text wsX5_goesOn := goodIn_r _ [73, 13, 14, 34, 35, 26, 27, 28, 11, 29, 30, 31, 32, 33, 36, 45, 46, 47, 48, 303, 304, 305, 306, 307, 308, 309, 301, 302] (by decide +kernel) (by decide +kernel)
set_option maxRecDepth 20000 in
theorem gX10_text_X5_goesOn : GoodIn wsX10_text (wsV RX10 130 RX5 yX5_goesOn wsX5_goesOn) := goodIn_app (goodIn_of _ (by decide +kernel)) ggX10_text_X5_goesOn
theorem dX10_text_0 : decode cX10_text 0 = .ok (.aload_n 0, 1) := by decide +kernel
theorem dX10_text_1 : decode cX10_text 1 = .ok (.getfield 21, 3) := by decide +kernel
theorem dX10_text_4 : decode cX10_text 4 = .ok (.invokevirtual 104, 3) := by decide +kernel
theorem dX10_text_7 : decode cX10_text 7 = .ok (.iconst (-1), 1) := by decide +kernel
theorem dX10_text_8 : decode cX10_text 8 = .ok (.if_icmp .eq 5, 3) := by decide +kernel
theorem dX10_text_11 : decode cX10_text 11 = .ok (.iconst (-1), 1) := by decide +kernel
theorem dX10_text_12 : decode cX10_text 12 = .ok (.ireturn, 1) := by decide +kernel
theorem dX10_text_13 : decode cX10_text 13 = .ok (.aload_n 0, 1) := by decide +kernel
theorem dX10_text_14 : decode cX10_text 14 = .ok (.getfield 28, 3) := by decide +kernel
theorem dX10_text_17 : decode cX10_text 17 = .ok (.iconst 0, 1) := by decide +kernel
theorem dX10_text_18 : decode cX10_text 18 = .ok (.putfield 108, 3) := by decide +kernel
theorem dX10_text_21 : decode cX10_text 21 = .ok (.aload_n 0, 1) := by decide +kernel
theorem dX10_text_22 : decode cX10_text 22 = .ok (.getfield 51, 3) := by decide +kernel
theorem dX10_text_25 : decode cX10_text 25 = .ok (.invokevirtual 111, 3) := by decide +kernel
theorem dX10_text_28 : decode cX10_text 28 = .ok (.aload_n 0, 1) := by decide +kernel
theorem dX10_text_29 : decode cX10_text 29 = .ok (.invokevirtual 114, 3) := by decide +kernel
theorem dX10_text_32 : decode cX10_text 32 = .ok (.iconst 0, 1) := by decide +kernel
theorem dX10_text_33 : decode cX10_text 33 = .ok (.istore_n 1, 1) := by decide +kernel
theorem dX10_text_34 : decode cX10_text 34 = .ok (.iconst 1, 1) := by decide +kernel
theorem dX10_text_35 : decode cX10_text 35 = .ok (.istore_n 2, 1) := by decide +kernel
theorem dX10_text_36 : decode cX10_text 36 = .ok (.aload_n 0, 1) := by decide +kernel
theorem dX10_text_37 : decode cX10_text 37 = .ok (.getfield 21, 3) := by decide +kernel
theorem dX10_text_40 : decode cX10_text 40 = .ok (.invokevirtual 117, 3) := by decide +kernel
theorem dX10_text_43 : decode cX10_text 43 = .ok (.iconst 0, 1) := by decide +kernel
theorem dX10_text_44 : decode cX10_text 44 = .ok (.istore_n 3, 1) := by decide +kernel
theorem dX10_text_45 : decode cX10_text 45 = .ok (.iload_n 3, 1) := by decide +kernel
theorem dX10_text_46 : decode cX10_text 46 = .ok (.sipush 600, 3) := by decide +kernel
theorem dX10_text_49 : decode cX10_text 49 = .ok (.if_icmp .gt 60, 3) := by decide +kernel
theorem dX10_text_52 : decode cX10_text 52 = .ok (.iload_n 2, 1) := by decide +kernel
theorem dX10_text_53 : decode cX10_text 53 = .ok (.ifCond .eq 56, 3) := by decide +kernel
theorem dX10_text_56 : decode cX10_text 56 = .ok (.aload_n 0, 1) := by decide +kernel
theorem dX10_text_57 : decode cX10_text 57 = .ok (.getfield 21, 3) := by decide +kernel
theorem dX10_text_60 : decode cX10_text 60 = .ok (.invokevirtual 120, 3) := by decide +kernel
theorem dX10_text_63 : decode cX10_text 63 = .ok (.aload_n 0, 1) := by decide +kernel
theorem dX10_text_64 : decode cX10_text 64 = .ok (.getfield 28, 3) := by decide +kernel
theorem dX10_text_67 : decode cX10_text 67 = .ok (.getfield 108, 3) := by decide +kernel
theorem dX10_text_70 : decode cX10_text 70 = .ok (.istore 4, 2) := by decide +kernel
theorem dX10_text_72 : decode cX10_text 72 = .ok (.aload_n 0, 1) := by decide +kernel
theorem dX10_text_73 : decode cX10_text 73 = .ok (.getfield 37, 3) := by decide +kernel
theorem dX10_text_76 : decode cX10_text 76 = .ok (.aload_n 0, 1) := by decide +kernel
theorem dX10_text_77 : decode cX10_text 77 = .ok (.getfield 21, 3) := by decide +kernel
theorem dX10_text_80 : decode cX10_text 80 = .ok (.invokevirtual 123, 3) := by decide +kernel
theorem dX10_text_83 : decode cX10_text 83 = .ok (.ifCond .ne 6, 3) := by decide +kernel
theorem dX10_text_86 : decode cX10_text 86 = .ok (.iinc 1 1, 3) := by decide +kernel
theorem dX10_text_89 : decode cX10_text 89 = .ok (.aload_n 0, 1) := by decide +kernel
theorem dX10_text_90 : decode cX10_text 90 = .ok (.iload 4, 2) := by decide +kernel
theorem dX10_text_92 : decode cX10_text 92 = .ok (.invokevirtual 127, 3) := by decide +kernel
theorem dX10_text_95 : decode cX10_text 95 = .ok (.aload_n 0, 1) := by decide +kernel
theorem dX10_text_96 : decode cX10_text 96 = .ok (.getfield 21, 3) := by decide +kernel
theorem dX10_text_99 : decode cX10_text 99 = .ok (.invokevirtual 130, 3) := by decide +kernel
theorem dX10_text_102 : decode cX10_text 102 = .ok (.istore_n 2, 1) := by decide +kernel
theorem dX10_text_103 : decode cX10_text 103 = .ok (.iinc 3 1, 3) := by decide +kernel
theorem dX10_text_106 : decode cX10_text 106 = .ok (.goto (-61), 3) := by decide +kernel
theorem dX10_text_109 : decode cX10_text 109 = .ok (.aload_n 0, 1) := by decide +kernel
theorem dX10_text_110 : decode cX10_text 110 = .ok (.getfield 10, 3) := by decide +kernel
theorem dX10_text_113 : decode cX10_text 113 = .ok (.iconst 0, 1) := by decide +kernel
theorem dX10_text_114 : decode cX10_text 114 = .ok (.putfield 96, 3) := by decide +kernel
theorem dX10_text_117 : decode cX10_text 117 = .ok (.iload_n 1, 1) := by decide +kernel
theorem dX10_text_118 : decode cX10_text 118 = .ok (.ireturn, 1) := by decide +kernel
theorem dX10_count_0 : decode cX10_count 0 = .ok (.iload_n 1, 1) := by decide +kernel
theorem dX10_count_1 : decode cX10_count 1 = .ok (.tableswitch 60 0 3 #[31, 39, 47, 52], 31) := by decide +kernel
theorem dX10_count_32 : decode cX10_count 32 = .ok (.aload_n 0, 1) := by decide +kernel
theorem dX10_count_33 : decode cX10_count 33 = .ok (.getfield 28, 3) := by decide +kernel
theorem dX10_count_36 : decode cX10_count 36 = .ok (.getfield 108, 3) := by decide +kernel
theorem dX10_count_39 : decode cX10_count 39 = .ok (.ireturn, 1) := by decide +kernel
theorem dX10_count_40 : decode cX10_count 40 = .ok (.aload_n 0, 1) := by decide +kernel
theorem dX10_count_41 : decode cX10_count 41 = .ok (.getfield 10, 3) := by decide +kernel
theorem dX10_count_44 : decode cX10_count 44 = .ok (.getfield 96, 3) := by decide +kernel
theorem dX10_count_47 : decode cX10_count 47 = .ok (.ireturn, 1) := by decide +kernel
theorem dX10_count_48 : decode cX10_count 48 = .ok (.aload_n 0, 1) := by decide +kernel
theorem dX10_count_49 : decode cX10_count 49 = .ok (.getfield 134, 3) := by decide +kernel
theorem dX10_count_52 : decode cX10_count 52 = .ok (.ireturn, 1) := by decide +kernel
theorem dX10_count_53 : decode cX10_count 53 = .ok (.aload_n 0, 1) := by decide +kernel
theorem dX10_count_54 : decode cX10_count 54 = .ok (.getfield 84, 3) := by decide +kernel
theorem dX10_count_57 : decode cX10_count 57 = .ok (.getfield 137, 3) := by decide +kernel
theorem dX10_count_60 : decode cX10_count 60 = .ok (.ireturn, 1) := by decide +kernel
theorem dX10_count_61 : decode cX10_count 61 = .ok (.ldc 140, 2) := by decide +kernel
theorem dX10_count_63 : decode cX10_count 63 = .ok (.ireturn, 1) := by decide +kernel
set_option maxRecDepth 20000 in
theorem ggX10_tet_X1_has : GoodIn wsX10_tet wsX1_has := goodIn_r _ [10, 11, 25, 26, 27, 28, 29, 30] (by decide +kernel) (by decide +kernel)
set_option maxRecDepth 20000 in
theorem gX10_tet_X1_has : GoodIn wsX10_tet (wsV RX10 141 RX1 yX1_has wsX1_has) := goodIn_app (goodIn_of _ (by decide +kernel)) ggX10_tet_X1_has
theorem dX10_tet_0 : decode cX10_tet 0 = .ok (.aload_n 0, 1) := by decide +kernel
theorem dX10_tet_1 : decode cX10_tet 1 = .ok (.getfield 28, 3) := by decide +kernel
theorem dX10_tet_4 : decode cX10_tet 4 = .ok (.iload_n 1, 1) := by decide +kernel
theorem dX10_tet_5 : decode cX10_tet 5 = .ok (.invokevirtual 141, 3) := by decide +kernel
theorem dX10_tet_8 : decode cX10_tet 8 = .ok (.ifCond .eq 12, 3) := by decide +kernel
theorem dX10_tet_11 : decode cX10_tet 11 = .ok (.iload_n 2, 1) := by decide +kernel
theorem dX10_tet_12 : decode cX10_tet 12 = .ok (.ifCond .lt 8, 3) := by decide +kernel
theorem dX10_tet_15 : decode cX10_tet 15 = .ok (.iload_n 2, 1) := by decide +kernel
theorem dX10_tet_16 : decode cX10_tet 16 = .ok (.iconst 1, 1) := by decide +kernel
theorem dX10_tet_17 : decode cX10_tet 17 = .ok (.if_icmp .le 13, 3) := by decide +kernel
theorem dX10_tet_20 : decode cX10_tet 20 = .ok (.new 145, 3) := by decide +kernel
theorem dX10_tet_23 : decode cX10_tet 23 = .ok (.dup, 1) := by decide +kernel
theorem dX10_tet_24 : decode cX10_tet 24 = .ok (.ldc 147, 2) := by decide +kernel
theorem dX10_tet_26 : decode cX10_tet 26 = .ok (.invokespecial 149, 3) := by decide +kernel
theorem dX10_tet_29 : decode cX10_tet 29 = .ok (.athrow, 1) := by decide +kernel
theorem dX10_tet_30 : decode cX10_tet 30 = .ok (.iload_n 2, 1) := by decide +kernel
theorem dX10_tet_31 : decode cX10_tet 31 = .ok (.ifCond .ne 15, 3) := by decide +kernel
theorem dX10_tet_34 : decode cX10_tet 34 = .ok (.aload_n 0, 1) := by decide +kernel
theorem dX10_tet_35 : decode cX10_tet 35 = .ok (.getfield 28, 3) := by decide +kernel
theorem dX10_tet_38 : decode cX10_tet 38 = .ok (.getfield 152, 3) := by decide +kernel
theorem dX10_tet_41 : decode cX10_tet 41 = .ok (.iload_n 1, 1) := by decide +kernel
theorem dX10_tet_42 : decode cX10_tet 42 = .ok (.iaload, 1) := by decide +kernel
theorem dX10_tet_43 : decode cX10_tet 43 = .ok (.goto 12, 3) := by decide +kernel
theorem dX10_tet_46 : decode cX10_tet 46 = .ok (.aload_n 0, 1) := by decide +kernel
theorem dX10_tet_47 : decode cX10_tet 47 = .ok (.getfield 28, 3) := by decide +kernel
theorem dX10_tet_50 : decode cX10_tet 50 = .ok (.getfield 155, 3) := by decide +kernel
theorem dX10_tet_53 : decode cX10_tet 53 = .ok (.iload_n 1, 1) := by decide +kernel
theorem dX10_tet_54 : decode cX10_tet 54 = .ok (.iaload, 1) := by decide +kernel
theorem dX10_tet_55 : decode cX10_tet 55 = .ok (.ireturn, 1) := by decide +kernel
set_option maxRecDepth 20000 in
theorem ggX10_corner_X1_has : GoodIn wsX10_corner wsX1_has := goodIn_r _ [8, 9, 23, 24, 25, 26, 27, 28] (by decide +kernel) (by decide +kernel)
set_option maxRecDepth 20000 in
theorem gX10_corner_X1_has : GoodIn wsX10_corner (wsV RX10 141 RX1 yX1_has wsX1_has) := goodIn_app (goodIn_of _ (by decide +kernel)) ggX10_corner_X1_has
theorem dX10_corner_0 : decode cX10_corner 0 = .ok (.aload_n 0, 1) := by decide +kernel
theorem dX10_corner_1 : decode cX10_corner 1 = .ok (.getfield 28, 3) := by decide +kernel
theorem dX10_corner_4 : decode cX10_corner 4 = .ok (.iload_n 1, 1) := by decide +kernel
theorem dX10_corner_5 : decode cX10_corner 5 = .ok (.invokevirtual 141, 3) := by decide +kernel
theorem dX10_corner_8 : decode cX10_corner 8 = .ok (.ifCond .eq 21, 3) := by decide +kernel
theorem dX10_corner_11 : decode cX10_corner 11 = .ok (.iload_n 2, 1) := by decide +kernel
theorem dX10_corner_12 : decode cX10_corner 12 = .ok (.ifCond .lt 17, 3) := by decide +kernel
theorem dX10_corner_15 : decode cX10_corner 15 = .ok (.iload_n 2, 1) := by decide +kernel
theorem dX10_corner_16 : decode cX10_corner 16 = .ok (.iconst 3, 1) := by decide +kernel
theorem dX10_corner_17 : decode cX10_corner 17 = .ok (.if_icmp .gt 12, 3) := by decide +kernel
theorem dX10_corner_20 : decode cX10_corner 20 = .ok (.iload_n 3, 1) := by decide +kernel
theorem dX10_corner_21 : decode cX10_corner 21 = .ok (.ifCond .lt 8, 3) := by decide +kernel
theorem dX10_corner_24 : decode cX10_corner 24 = .ok (.iload_n 3, 1) := by decide +kernel
theorem dX10_corner_25 : decode cX10_corner 25 = .ok (.iconst 2, 1) := by decide +kernel
theorem dX10_corner_26 : decode cX10_corner 26 = .ok (.if_icmp .le 6, 3) := by decide +kernel
theorem dX10_corner_29 : decode cX10_corner 29 = .ok (.ldc 140, 2) := by decide +kernel
theorem dX10_corner_31 : decode cX10_corner 31 = .ok (.ireturn, 1) := by decide +kernel
theorem dX10_corner_32 : decode cX10_corner 32 = .ok (.aload_n 0, 1) := by decide +kernel
theorem dX10_corner_33 : decode cX10_corner 33 = .ok (.getfield 28, 3) := by decide +kernel
theorem dX10_corner_36 : decode cX10_corner 36 = .ok (.getfield 158, 3) := by decide +kernel
theorem dX10_corner_39 : decode cX10_corner 39 = .ok (.iload_n 1, 1) := by decide +kernel
theorem dX10_corner_40 : decode cX10_corner 40 = .ok (.bipush 12, 2) := by decide +kernel
theorem dX10_corner_42 : decode cX10_corner 42 = .ok (.imul, 1) := by decide +kernel
theorem dX10_corner_43 : decode cX10_corner 43 = .ok (.iload_n 2, 1) := by decide +kernel
theorem dX10_corner_44 : decode cX10_corner 44 = .ok (.iconst 3, 1) := by decide +kernel
theorem dX10_corner_45 : decode cX10_corner 45 = .ok (.imul, 1) := by decide +kernel
theorem dX10_corner_46 : decode cX10_corner 46 = .ok (.iadd, 1) := by decide +kernel
theorem dX10_corner_47 : decode cX10_corner 47 = .ok (.iload_n 3, 1) := by decide +kernel
theorem dX10_corner_48 : decode cX10_corner 48 = .ok (.iadd, 1) := by decide +kernel
theorem dX10_corner_49 : decode cX10_corner 49 = .ok (.iaload, 1) := by decide +kernel
theorem dX10_corner_50 : decode cX10_corner 50 = .ok (.ireturn, 1) := by decide +kernel
set_option maxRecDepth 20000 in
theorem ggX10_edge_X10_isEdge : GoodIn wsX10_edge wsX10_isEdge := goodIn_r _ [15, 3, 16, 17, 18, 19, 20, 21, 95, 96, 97, 98, 99, 100, 101, 102, 103, 104, 105, 106, 107, 108, 109, 110, 111, 112, 113] (by decide +kernel) (by decide +kernel)
set_option maxRecDepth 20000 in
theorem gX10_edge_X10_isEdge : GoodIn wsX10_edge (wsV RX10 161 RX10 yX10_isEdge wsX10_isEdge) := goodIn_app (goodIn_of _ (by decide +kernel)) ggX10_edge_X10_isEdge
set_option maxRecDepth 20000 in
theorem ggX10_edge_X0_measure : GoodIn wsX10_edge wsX0_measure := goodIn_r _ [26, 27, 28, 29, 30, 31, 32, 33, 34, 35, 36, 37, 38, 39, 40, 41, 42, 25, 43, 44, 45, 46, 47, 48, 49, 50, 51, 52, 53, 19, 54, 55, 14, 56, 57, 58, 59, 60, 61, 62, 63, 114, 115, 116, 117, 118, 119, 120, 121, 122, 123, 124, 125, 126] (by decide +kernel) (by decide +kernel)
set_option maxRecDepth 20000 in
theorem gX10_edge_X0_measure : GoodIn wsX10_edge (wsV RX10 165 RX0 yX0_measure wsX0_measure) := goodIn_app (goodIn_of _ (by decide +kernel)) ggX10_edge_X0_measure
set_option maxRecDepth 20000 in
theorem ggX10_edge_X0_split : GoodIn wsX10_edge wsX0_split := goodIn_r _ [67, 40, 39, 30, 31, 68, 69, 34, 70, 71, 72, 73, 74, 75, 25, 76, 77, 78, 79, 80, 51, 37, 38, 81, 82, 83, 84, 85, 86, 87, 88, 89, 90, 91, 92, 93, 94, 114, 115, 116, 117, 118, 119, 120, 121, 122, 123, 124, 125, 126] (by decide +kernel) (by decide +kernel)
set_option maxRecDepth 20000 in
theorem gX10_edge_X0_split : GoodIn wsX10_edge (wsV RX10 184 RX0 yX0_split wsX0_split) := goodIn_app (goodIn_of _ (by decide +kernel)) ggX10_edge_X0_split
theorem dX10_edge_0 : decode cX10_edge 0 = .ok (.aload_n 0, 1) := by decide +kernel
theorem dX10_edge_1 : decode cX10_edge 1 = .ok (.iload_n 1, 1) := by decide +kernel
theorem dX10_edge_2 : decode cX10_edge 2 = .ok (.iload_n 2, 1) := by decide +kernel
theorem dX10_edge_3 : decode cX10_edge 3 = .ok (.invokevirtual 161, 3) := by decide +kernel
theorem dX10_edge_6 : decode cX10_edge 6 = .ok (.ifCond .ne 6, 3) := by decide +kernel
theorem dX10_edge_9 : decode cX10_edge 9 = .ok (.ldc 140, 2) := by decide +kernel
theorem dX10_edge_11 : decode cX10_edge 11 = .ok (.ireturn, 1) := by decide +kernel
theorem dX10_edge_12 : decode cX10_edge 12 = .ok (.aload_n 0, 1) := by decide +kernel
theorem dX10_edge_13 : decode cX10_edge 13 = .ok (.getfield 44, 3) := by decide +kernel
theorem dX10_edge_16 : decode cX10_edge 16 = .ok (.aload_n 0, 1) := by decide +kernel
theorem dX10_edge_17 : decode cX10_edge 17 = .ok (.getfield 28, 3) := by decide +kernel
theorem dX10_edge_20 : decode cX10_edge 20 = .ok (.getfield 158, 3) := by decide +kernel
theorem dX10_edge_23 : decode cX10_edge 23 = .ok (.iload_n 1, 1) := by decide +kernel
theorem dX10_edge_24 : decode cX10_edge 24 = .ok (.bipush 12, 2) := by decide +kernel
theorem dX10_edge_26 : decode cX10_edge 26 = .ok (.imul, 1) := by decide +kernel
theorem dX10_edge_27 : decode cX10_edge 27 = .ok (.iload_n 2, 1) := by decide +kernel
theorem dX10_edge_28 : decode cX10_edge 28 = .ok (.invokevirtual 165, 3) := by decide +kernel
theorem dX10_edge_31 : decode cX10_edge 31 = .ok (.iload_n 3, 1) := by decide +kernel
theorem dX10_edge_32 : decode cX10_edge 32 = .ok (.tableswitch 95 0 5 #[40, 48, 56, 64, 72, 80], 40) := by decide +kernel
theorem dX10_edge_72 : decode cX10_edge 72 = .ok (.aload_n 0, 1) := by decide +kernel
theorem dX10_edge_73 : decode cX10_edge 73 = .ok (.getfield 44, 3) := by decide +kernel
theorem dX10_edge_76 : decode cX10_edge 76 = .ok (.getfield 169, 3) := by decide +kernel
theorem dX10_edge_79 : decode cX10_edge 79 = .ok (.ireturn, 1) := by decide +kernel
theorem dX10_edge_80 : decode cX10_edge 80 = .ok (.aload_n 0, 1) := by decide +kernel
theorem dX10_edge_81 : decode cX10_edge 81 = .ok (.getfield 44, 3) := by decide +kernel
theorem dX10_edge_84 : decode cX10_edge 84 = .ok (.getfield 172, 3) := by decide +kernel
theorem dX10_edge_87 : decode cX10_edge 87 = .ok (.ireturn, 1) := by decide +kernel
theorem dX10_edge_88 : decode cX10_edge 88 = .ok (.aload_n 0, 1) := by decide +kernel
theorem dX10_edge_89 : decode cX10_edge 89 = .ok (.getfield 44, 3) := by decide +kernel
theorem dX10_edge_92 : decode cX10_edge 92 = .ok (.getfield 175, 3) := by decide +kernel
theorem dX10_edge_95 : decode cX10_edge 95 = .ok (.ireturn, 1) := by decide +kernel
theorem dX10_edge_96 : decode cX10_edge 96 = .ok (.aload_n 0, 1) := by decide +kernel
theorem dX10_edge_97 : decode cX10_edge 97 = .ok (.getfield 44, 3) := by decide +kernel
theorem dX10_edge_100 : decode cX10_edge 100 = .ok (.getfield 178, 3) := by decide +kernel
theorem dX10_edge_103 : decode cX10_edge 103 = .ok (.ireturn, 1) := by decide +kernel
theorem dX10_edge_104 : decode cX10_edge 104 = .ok (.aload_n 0, 1) := by decide +kernel
theorem dX10_edge_105 : decode cX10_edge 105 = .ok (.getfield 44, 3) := by decide +kernel
theorem dX10_edge_108 : decode cX10_edge 108 = .ok (.getfield 181, 3) := by decide +kernel
theorem dX10_edge_111 : decode cX10_edge 111 = .ok (.ireturn, 1) := by decide +kernel
theorem dX10_edge_112 : decode cX10_edge 112 = .ok (.aload_n 0, 1) := by decide +kernel
theorem dX10_edge_113 : decode cX10_edge 113 = .ok (.getfield 44, 3) := by decide +kernel
theorem dX10_edge_116 : decode cX10_edge 116 = .ok (.invokevirtual 184, 3) := by decide +kernel
theorem dX10_edge_119 : decode cX10_edge 119 = .ok (.aload_n 0, 1) := by decide +kernel
theorem dX10_edge_120 : decode cX10_edge 120 = .ok (.getfield 44, 3) := by decide +kernel
theorem dX10_edge_123 : decode cX10_edge 123 = .ok (.getfield 187, 3) := by decide +kernel
theorem dX10_edge_126 : decode cX10_edge 126 = .ok (.ireturn, 1) := by decide +kernel
theorem dX10_edge_127 : decode cX10_edge 127 = .ok (.ldc 140, 2) := by decide +kernel
theorem dX10_edge_129 : decode cX10_edge 129 = .ok (.ireturn, 1) := by decide +kernel
set_option maxRecDepth 20000 in
theorem ggX10_prime_X10_isEdge : GoodIn wsX10_prime wsX10_isEdge := goodIn_r _ [12, 3, 13, 14, 15, 16, 17, 18, 92, 93, 94, 95, 96, 97, 98, 99, 100, 101, 102, 103, 104, 105, 106, 107, 108, 109, 110] (by decide +kernel) (by decide +kernel)
set_option maxRecDepth 20000 in
theorem gX10_prime_X10_isEdge : GoodIn wsX10_prime (wsV RX10 161 RX10 yX10_isEdge wsX10_isEdge) := goodIn_app (goodIn_of _ (by decide +kernel)) ggX10_prime_X10_isEdge
set_option maxRecDepth 20000 in
theorem ggX10_prime_X0_measure : GoodIn wsX10_prime wsX0_measure := goodIn_r _ [23, 24, 25, 26, 27, 28, 29, 30, 31, 32, 33, 34, 35, 36, 37, 38, 39, 22, 40, 41, 42, 43, 44, 45, 46, 47, 48, 49, 50, 16, 51, 52, 11, 53, 54, 55, 56, 57, 58, 59, 60, 111, 112, 113, 114, 115, 116, 117, 118, 119, 120, 121, 122, 123] (by decide +kernel) (by decide +kernel)
set_option maxRecDepth 20000 in
theorem gX10_prime_X0_measure : GoodIn wsX10_prime (wsV RX10 165 RX0 yX0_measure wsX0_measure) := goodIn_app (goodIn_of _ (by decide +kernel)) ggX10_prime_X0_measure
set_option maxRecDepth 20000 in
theorem ggX10_prime_X0_split : GoodIn wsX10_prime wsX0_split := goodIn_r _ [64, 37, 36, 27, 28, 65, 66, 31, 67, 68, 69, 70, 71, 72, 22, 73, 74, 75, 76, 77, 48, 34, 35, 78, 79, 80, 81, 82, 83, 84, 85, 86, 87, 88, 89, 90, 91, 111, 112, 113, 114, 115, 116, 117, 118, 119, 120, 121, 122, 123] (by decide +kernel) (by decide +kernel)
set_option maxRecDepth 20000 in
theorem gX10_prime_X0_split : GoodIn wsX10_prime (wsV RX10 184 RX0 yX0_split wsX0_split) := goodIn_app (goodIn_of _ (by decide +kernel)) ggX10_prime_X0_split
theorem dX10_prime_0 : decode cX10_prime 0 = .ok (.aload_n 0, 1) := by decide +kernel
theorem dX10_prime_1 : decode cX10_prime 1 = .ok (.iload_n 1, 1) := by decide +kernel
theorem dX10_prime_2 : decode cX10_prime 2 = .ok (.iload_n 2, 1) := by decide +kernel
theorem dX10_prime_3 : decode cX10_prime 3 = .ok (.invokevirtual 161, 3) := by decide +kernel
theorem dX10_prime_6 : decode cX10_prime 6 = .ok (.ifCond .eq 18, 3) := by decide +kernel
theorem dX10_prime_9 : decode cX10_prime 9 = .ok (.iload_n 3, 1) := by decide +kernel
theorem dX10_prime_10 : decode cX10_prime 10 = .ok (.ifCond .lt 14, 3) := by decide +kernel
theorem dX10_prime_13 : decode cX10_prime 13 = .ok (.iload 4, 2) := by decide +kernel
theorem dX10_prime_15 : decode cX10_prime 15 = .ok (.ifCond .lt 9, 3) := by decide +kernel
theorem dX10_prime_18 : decode cX10_prime 18 = .ok (.iload 4, 2) := by decide +kernel
theorem dX10_prime_20 : decode cX10_prime 20 = .ok (.iconst 1, 1) := by decide +kernel
theorem dX10_prime_21 : decode cX10_prime 21 = .ok (.if_icmp .le 6, 3) := by decide +kernel
theorem dX10_prime_24 : decode cX10_prime 24 = .ok (.ldc 140, 2) := by decide +kernel
theorem dX10_prime_26 : decode cX10_prime 26 = .ok (.ireturn, 1) := by decide +kernel
theorem dX10_prime_27 : decode cX10_prime 27 = .ok (.aload_n 0, 1) := by decide +kernel
theorem dX10_prime_28 : decode cX10_prime 28 = .ok (.getfield 44, 3) := by decide +kernel
theorem dX10_prime_31 : decode cX10_prime 31 = .ok (.aload_n 0, 1) := by decide +kernel
theorem dX10_prime_32 : decode cX10_prime 32 = .ok (.getfield 28, 3) := by decide +kernel
theorem dX10_prime_35 : decode cX10_prime 35 = .ok (.getfield 158, 3) := by decide +kernel
theorem dX10_prime_38 : decode cX10_prime 38 = .ok (.iload_n 1, 1) := by decide +kernel
theorem dX10_prime_39 : decode cX10_prime 39 = .ok (.bipush 12, 2) := by decide +kernel
theorem dX10_prime_41 : decode cX10_prime 41 = .ok (.imul, 1) := by decide +kernel
theorem dX10_prime_42 : decode cX10_prime 42 = .ok (.iload_n 2, 1) := by decide +kernel
theorem dX10_prime_43 : decode cX10_prime 43 = .ok (.invokevirtual 165, 3) := by decide +kernel
theorem dX10_prime_46 : decode cX10_prime 46 = .ok (.aload_n 0, 1) := by decide +kernel
theorem dX10_prime_47 : decode cX10_prime 47 = .ok (.getfield 44, 3) := by decide +kernel
theorem dX10_prime_50 : decode cX10_prime 50 = .ok (.invokevirtual 184, 3) := by decide +kernel
theorem dX10_prime_53 : decode cX10_prime 53 = .ok (.iload_n 3, 1) := by decide +kernel
theorem dX10_prime_54 : decode cX10_prime 54 = .ok (.aload_n 0, 1) := by decide +kernel
theorem dX10_prime_55 : decode cX10_prime 55 = .ok (.getfield 44, 3) := by decide +kernel
theorem dX10_prime_58 : decode cX10_prime 58 = .ok (.getfield 187, 3) := by decide +kernel
theorem dX10_prime_61 : decode cX10_prime 61 = .ok (.if_icmp .lt 6, 3) := by decide +kernel
theorem dX10_prime_64 : decode cX10_prime 64 = .ok (.ldc 140, 2) := by decide +kernel
theorem dX10_prime_66 : decode cX10_prime 66 = .ok (.ireturn, 1) := by decide +kernel
theorem dX10_prime_67 : decode cX10_prime 67 = .ok (.iload 4, 2) := by decide +kernel
theorem dX10_prime_69 : decode cX10_prime 69 = .ok (.ifCond .ne 15, 3) := by decide +kernel
theorem dX10_prime_72 : decode cX10_prime 72 = .ok (.aload_n 0, 1) := by decide +kernel
theorem dX10_prime_73 : decode cX10_prime 73 = .ok (.getfield 44, 3) := by decide +kernel
theorem dX10_prime_76 : decode cX10_prime 76 = .ok (.getfield 188, 3) := by decide +kernel
theorem dX10_prime_79 : decode cX10_prime 79 = .ok (.iload_n 3, 1) := by decide +kernel
theorem dX10_prime_80 : decode cX10_prime 80 = .ok (.iaload, 1) := by decide +kernel
theorem dX10_prime_81 : decode cX10_prime 81 = .ok (.goto 12, 3) := by decide +kernel
theorem dX10_prime_84 : decode cX10_prime 84 = .ok (.aload_n 0, 1) := by decide +kernel
theorem dX10_prime_85 : decode cX10_prime 85 = .ok (.getfield 44, 3) := by decide +kernel
theorem dX10_prime_88 : decode cX10_prime 88 = .ok (.getfield 191, 3) := by decide +kernel
theorem dX10_prime_91 : decode cX10_prime 91 = .ok (.iload_n 3, 1) := by decide +kernel
theorem dX10_prime_92 : decode cX10_prime 92 = .ok (.iaload, 1) := by decide +kernel
theorem dX10_prime_93 : decode cX10_prime 93 = .ok (.ireturn, 1) := by decide +kernel
set_option maxRecDepth 20000 in
theorem ggX10_solid_X10_isSolid : GoodIn wsX10_solid wsX10_isSolid := goodIn_r _ [6] (by decide +kernel) (by decide +kernel)
set_option maxRecDepth 20000 in
theorem gX10_solid_X10_isSolid : GoodIn wsX10_solid (va_wsS RX10 194 yX10_isSolid wsX10_isSolid) := goodIn_app (goodIn_of _ (by decide +kernel)) ggX10_solid_X10_isSolid
set_option maxRecDepth 20000 in
theorem ggX10_solid_X1_sixOfSolid : GoodIn wsX10_solid wsX1_sixOfSolid := goodIn_r _ [11, 12, 13, 14, 94, 95, 96, 97, 98, 99] (by decide +kernel) (by decide +kernel)
set_option maxRecDepth 20000 in
theorem gX10_solid_X1_sixOfSolid : GoodIn wsX10_solid (wsV RX10 197 RX1 yX1_sixOfSolid wsX1_sixOfSolid) := goodIn_app (goodIn_of _ (by decide +kernel)) ggX10_solid_X1_sixOfSolid
set_option maxRecDepth 20000 in
theorem ggX10_solid_X1_tetsOfSolid : GoodIn wsX10_solid wsX1_tetsOfSolid := goodIn_r _ [18, 12, 13, 94, 95, 96, 97, 98, 99] (by decide +kernel) (by decide +kernel)
set_option maxRecDepth 20000 in
theorem gX10_solid_X1_tetsOfSolid : GoodIn wsX10_solid (wsV RX10 200 RX1 yX1_tetsOfSolid wsX1_tetsOfSolid) := goodIn_app (goodIn_of _ (by decide +kernel)) ggX10_solid_X1_tetsOfSolid
set_option maxRecDepth 20000 in
theorem ggX10_solid_X10_oddEdges : GoodIn wsX10_solid wsX10_oddEdges := goodIn_r _ [22, 1, 23, 24, 25, 26, 27, 28, 29, 30, 31, 32, 33, 34, 35, 36, 37, 38, 39, 40, 41, 42, 43, 44, 45, 46, 47, 48, 49, 50, 51, 52, 53, 54, 55, 56, 57, 58, 59, 10, 60, 61, 5, 62, 63, 64, 65, 66, 67, 68, 69, 81, 82, 83, 84, 85, 86, 87, 88, 89, 90, 91, 92, 93, 94, 95, 96, 97, 98, 99, 100, 101, 102, 103, 104, 105, 106, 107, 108, 109, 110, 111, 112] (by decide +kernel) (by decide +kernel)
set_option maxRecDepth 20000 in
theorem gX10_solid_X10_oddEdges : GoodIn wsX10_solid (wsV RX10 203 RX10 yX10_oddEdges wsX10_oddEdges) := goodIn_app (goodIn_of _ (by decide +kernel)) ggX10_solid_X10_oddEdges
set_option maxRecDepth 20000 in
theorem ggX10_solid_X8_terms : GoodIn wsX10_solid wsX8_terms := goodIn_r _ [74, 75, 76, 77, 78, 73, 79, 80, 113, 114, 115, 116] (by decide +kernel) (by decide +kernel)
set_option maxRecDepth 20000 in
theorem gX10_solid_X8_terms : GoodIn wsX10_solid (wsV RX10 206 RX8 yX8_terms wsX8_terms) := goodIn_app (goodIn_of _ (by decide +kernel)) ggX10_solid_X8_terms
theorem dX10_solid_0 : decode cX10_solid 0 = .ok (.iload_n 1, 1) := by decide +kernel
theorem dX10_solid_1 : decode cX10_solid 1 = .ok (.invokestatic 194, 3) := by decide +kernel
theorem dX10_solid_4 : decode cX10_solid 4 = .ok (.ifCond .ne 5, 3) := by decide +kernel
theorem dX10_solid_7 : decode cX10_solid 7 = .ok (.iconst (-1), 1) := by decide +kernel
theorem dX10_solid_8 : decode cX10_solid 8 = .ok (.ireturn, 1) := by decide +kernel
theorem dX10_solid_9 : decode cX10_solid 9 = .ok (.iload_n 2, 1) := by decide +kernel
theorem dX10_solid_10 : decode cX10_solid 10 = .ok (.tableswitch 63 0 3 #[30, 39, 48, 54], 30) := by decide +kernel
theorem dX10_solid_40 : decode cX10_solid 40 = .ok (.aload_n 0, 1) := by decide +kernel
theorem dX10_solid_41 : decode cX10_solid 41 = .ok (.getfield 28, 3) := by decide +kernel
theorem dX10_solid_44 : decode cX10_solid 44 = .ok (.iload_n 1, 1) := by decide +kernel
theorem dX10_solid_45 : decode cX10_solid 45 = .ok (.invokevirtual 197, 3) := by decide +kernel
theorem dX10_solid_48 : decode cX10_solid 48 = .ok (.ireturn, 1) := by decide +kernel
theorem dX10_solid_49 : decode cX10_solid 49 = .ok (.aload_n 0, 1) := by decide +kernel
theorem dX10_solid_50 : decode cX10_solid 50 = .ok (.getfield 28, 3) := by decide +kernel
theorem dX10_solid_53 : decode cX10_solid 53 = .ok (.iload_n 1, 1) := by decide +kernel
theorem dX10_solid_54 : decode cX10_solid 54 = .ok (.invokevirtual 200, 3) := by decide +kernel
theorem dX10_solid_57 : decode cX10_solid 57 = .ok (.ireturn, 1) := by decide +kernel
theorem dX10_solid_58 : decode cX10_solid 58 = .ok (.aload_n 0, 1) := by decide +kernel
theorem dX10_solid_59 : decode cX10_solid 59 = .ok (.iload_n 1, 1) := by decide +kernel
theorem dX10_solid_60 : decode cX10_solid 60 = .ok (.invokevirtual 203, 3) := by decide +kernel
theorem dX10_solid_63 : decode cX10_solid 63 = .ok (.ireturn, 1) := by decide +kernel
theorem dX10_solid_64 : decode cX10_solid 64 = .ok (.aload_n 0, 1) := by decide +kernel
theorem dX10_solid_65 : decode cX10_solid 65 = .ok (.getfield 51, 3) := by decide +kernel
theorem dX10_solid_68 : decode cX10_solid 68 = .ok (.iload_n 1, 1) := by decide +kernel
theorem dX10_solid_69 : decode cX10_solid 69 = .ok (.invokevirtual 206, 3) := by decide +kernel
theorem dX10_solid_72 : decode cX10_solid 72 = .ok (.ireturn, 1) := by decide +kernel
theorem dX10_solid_73 : decode cX10_solid 73 = .ok (.iconst (-1), 1) := by decide +kernel
theorem dX10_solid_74 : decode cX10_solid 74 = .ok (.ireturn, 1) := by decide +kernel
set_option maxRecDepth 20000 in
theorem ggX10_term_X10_isSolid : GoodIn wsX10_term wsX10_isSolid := goodIn_r _ [8] (by decide +kernel) (by decide +kernel)
set_option maxRecDepth 20000 in
theorem gX10_term_X10_isSolid : GoodIn wsX10_term (va_wsS RX10 194 yX10_isSolid wsX10_isSolid) := goodIn_app (goodIn_of _ (by decide +kernel)) ggX10_term_X10_isSolid
set_option maxRecDepth 20000 in
theorem ggX10_term_X8_rowOfTerm : GoodIn wsX10_term wsX8_rowOfTerm := goodIn_r _ [13, 14, 15, 16, 17, 12, 18, 19, 34, 35, 36, 37] (by decide +kernel) (by decide +kernel)
set_option maxRecDepth 20000 in
theorem gX10_term_X8_rowOfTerm : GoodIn wsX10_term (wsV RX10 209 RX8 yX8_rowOfTerm wsX8_rowOfTerm) := goodIn_app (goodIn_of _ (by decide +kernel)) ggX10_term_X8_rowOfTerm
set_option maxRecDepth 20000 in
theorem ggX10_term_X8_at : GoodIn wsX10_term wsX8_at := goodIn_r _ [18, 14, 19, 34, 35, 36, 37] (by decide +kernel) (by decide +kernel)
set_option maxRecDepth 20000 in
theorem gX10_term_X8_at : GoodIn wsX10_term (wsV RX10 219 RX8 yX8_at wsX8_at) := goodIn_app (goodIn_of _ (by decide +kernel)) ggX10_term_X8_at
theorem dX10_term_0 : decode cX10_term 0 = .ok (.iload_n 1, 1) := by decide +kernel
theorem dX10_term_1 : decode cX10_term 1 = .ok (.invokestatic 194, 3) := by decide +kernel
theorem dX10_term_4 : decode cX10_term 4 = .ok (.ifCond .ne 6, 3) := by decide +kernel
theorem dX10_term_7 : decode cX10_term 7 = .ok (.ldc 140, 2) := by decide +kernel
theorem dX10_term_9 : decode cX10_term 9 = .ok (.ireturn, 1) := by decide +kernel
theorem dX10_term_10 : decode cX10_term 10 = .ok (.aload_n 0, 1) := by decide +kernel
theorem dX10_term_11 : decode cX10_term 11 = .ok (.getfield 51, 3) := by decide +kernel
theorem dX10_term_14 : decode cX10_term 14 = .ok (.iload_n 1, 1) := by decide +kernel
theorem dX10_term_15 : decode cX10_term 15 = .ok (.iload_n 2, 1) := by decide +kernel
theorem dX10_term_16 : decode cX10_term 16 = .ok (.invokevirtual 209, 3) := by decide +kernel
theorem dX10_term_19 : decode cX10_term 19 = .ok (.istore 4, 2) := by decide +kernel
theorem dX10_term_21 : decode cX10_term 21 = .ok (.iload 4, 2) := by decide +kernel
theorem dX10_term_23 : decode cX10_term 23 = .ok (.ifCond .ge 6, 3) := by decide +kernel
theorem dX10_term_26 : decode cX10_term 26 = .ok (.ldc 140, 2) := by decide +kernel
theorem dX10_term_28 : decode cX10_term 28 = .ok (.ireturn, 1) := by decide +kernel
theorem dX10_term_29 : decode cX10_term 29 = .ok (.iload_n 3, 1) := by decide +kernel
theorem dX10_term_30 : decode cX10_term 30 = .ok (.tableswitch 59 0 2 #[26, 37, 48], 26) := by decide +kernel
theorem dX10_term_56 : decode cX10_term 56 = .ok (.aload_n 0, 1) := by decide +kernel
theorem dX10_term_57 : decode cX10_term 57 = .ok (.getfield 51, 3) := by decide +kernel
theorem dX10_term_60 : decode cX10_term 60 = .ok (.getfield 213, 3) := by decide +kernel
theorem dX10_term_63 : decode cX10_term 63 = .ok (.iload 4, 2) := by decide +kernel
theorem dX10_term_65 : decode cX10_term 65 = .ok (.iaload, 1) := by decide +kernel
theorem dX10_term_66 : decode cX10_term 66 = .ok (.ireturn, 1) := by decide +kernel
theorem dX10_term_67 : decode cX10_term 67 = .ok (.aload_n 0, 1) := by decide +kernel
theorem dX10_term_68 : decode cX10_term 68 = .ok (.getfield 51, 3) := by decide +kernel
theorem dX10_term_71 : decode cX10_term 71 = .ok (.getfield 216, 3) := by decide +kernel
theorem dX10_term_74 : decode cX10_term 74 = .ok (.iload 4, 2) := by decide +kernel
theorem dX10_term_76 : decode cX10_term 76 = .ok (.iaload, 1) := by decide +kernel
theorem dX10_term_77 : decode cX10_term 77 = .ok (.ireturn, 1) := by decide +kernel
theorem dX10_term_78 : decode cX10_term 78 = .ok (.aload_n 0, 1) := by decide +kernel
theorem dX10_term_79 : decode cX10_term 79 = .ok (.getfield 51, 3) := by decide +kernel
theorem dX10_term_82 : decode cX10_term 82 = .ok (.iload 4, 2) := by decide +kernel
theorem dX10_term_84 : decode cX10_term 84 = .ok (.iload_n 1, 1) := by decide +kernel
theorem dX10_term_85 : decode cX10_term 85 = .ok (.invokevirtual 219, 3) := by decide +kernel
theorem dX10_term_88 : decode cX10_term 88 = .ok (.ireturn, 1) := by decide +kernel
theorem dX10_term_89 : decode cX10_term 89 = .ok (.ldc 140, 2) := by decide +kernel
theorem dX10_term_91 : decode cX10_term 91 = .ok (.ireturn, 1) := by decide +kernel
set_option maxRecDepth 20000 in
theorem ggX10_much_X10_isSolid : GoodIn wsX10_much wsX10_isSolid := goodIn_r _ [6] (by decide +kernel) (by decide +kernel)
set_option maxRecDepth 20000 in
theorem gX10_much_X10_isSolid : GoodIn wsX10_much (va_wsS RX10 194 yX10_isSolid wsX10_isSolid) := goodIn_app (goodIn_of _ (by decide +kernel)) ggX10_much_X10_isSolid
set_option maxRecDepth 20000 in
theorem ggX10_much_X8_firstNotBelow : GoodIn wsX10_much wsX8_firstNotBelow := goodIn_r _ [11, 12, 13, 14, 37, 38, 39, 40] (by decide +kernel) (by decide +kernel)
set_option maxRecDepth 20000 in
theorem gX10_much_X8_firstNotBelow : GoodIn wsX10_much (wsV RX10 222 RX8 yX8_firstNotBelow wsX8_firstNotBelow) := goodIn_app (goodIn_of _ (by decide +kernel)) ggX10_much_X8_firstNotBelow
set_option maxRecDepth 20000 in
theorem ggX10_much_X8_isAt : GoodIn wsX10_much wsX8_isAt := goodIn_r _ [18, 12, 13, 14, 37, 38, 39, 40] (by decide +kernel) (by decide +kernel)
set_option maxRecDepth 20000 in
theorem gX10_much_X8_isAt : GoodIn wsX10_much (wsV RX10 225 RX8 yX8_isAt wsX8_isAt) := goodIn_app (goodIn_of _ (by decide +kernel)) ggX10_much_X8_isAt
set_option maxRecDepth 20000 in
theorem ggX10_much_X8_at : GoodIn wsX10_much wsX8_at := goodIn_r _ [22, 12, 23, 37, 38, 39, 40] (by decide +kernel) (by decide +kernel)
set_option maxRecDepth 20000 in
theorem gX10_much_X8_at : GoodIn wsX10_much (wsV RX10 219 RX8 yX8_at wsX8_at) := goodIn_app (goodIn_of _ (by decide +kernel)) ggX10_much_X8_at
theorem dX10_much_0 : decode cX10_much 0 = .ok (.iload_n 1, 1) := by decide +kernel
theorem dX10_much_1 : decode cX10_much 1 = .ok (.invokestatic 194, 3) := by decide +kernel
theorem dX10_much_4 : decode cX10_much 4 = .ok (.ifCond .ne 6, 3) := by decide +kernel
theorem dX10_much_7 : decode cX10_much 7 = .ok (.ldc 140, 2) := by decide +kernel
theorem dX10_much_9 : decode cX10_much 9 = .ok (.ireturn, 1) := by decide +kernel
theorem dX10_much_10 : decode cX10_much 10 = .ok (.aload_n 0, 1) := by decide +kernel
theorem dX10_much_11 : decode cX10_much 11 = .ok (.getfield 51, 3) := by decide +kernel
theorem dX10_much_14 : decode cX10_much 14 = .ok (.iload_n 2, 1) := by decide +kernel
theorem dX10_much_15 : decode cX10_much 15 = .ok (.iload_n 3, 1) := by decide +kernel
theorem dX10_much_16 : decode cX10_much 16 = .ok (.invokevirtual 222, 3) := by decide +kernel
theorem dX10_much_19 : decode cX10_much 19 = .ok (.istore 4, 2) := by decide +kernel
theorem dX10_much_21 : decode cX10_much 21 = .ok (.aload_n 0, 1) := by decide +kernel
theorem dX10_much_22 : decode cX10_much 22 = .ok (.getfield 51, 3) := by decide +kernel
theorem dX10_much_25 : decode cX10_much 25 = .ok (.iload 4, 2) := by decide +kernel
theorem dX10_much_27 : decode cX10_much 27 = .ok (.iload_n 2, 1) := by decide +kernel
theorem dX10_much_28 : decode cX10_much 28 = .ok (.iload_n 3, 1) := by decide +kernel
theorem dX10_much_29 : decode cX10_much 29 = .ok (.invokevirtual 225, 3) := by decide +kernel
theorem dX10_much_32 : decode cX10_much 32 = .ok (.ifCond .eq 16, 3) := by decide +kernel
theorem dX10_much_35 : decode cX10_much 35 = .ok (.aload_n 0, 1) := by decide +kernel
theorem dX10_much_36 : decode cX10_much 36 = .ok (.getfield 51, 3) := by decide +kernel
theorem dX10_much_39 : decode cX10_much 39 = .ok (.iload 4, 2) := by decide +kernel
theorem dX10_much_41 : decode cX10_much 41 = .ok (.iload_n 1, 1) := by decide +kernel
theorem dX10_much_42 : decode cX10_much 42 = .ok (.invokevirtual 219, 3) := by decide +kernel
theorem dX10_much_45 : decode cX10_much 45 = .ok (.goto 4, 3) := by decide +kernel
theorem dX10_much_48 : decode cX10_much 48 = .ok (.iconst 0, 1) := by decide +kernel
theorem dX10_much_49 : decode cX10_much 49 = .ok (.ireturn, 1) := by decide +kernel
set_option maxRecDepth 20000 in
theorem ggX10_alike_X10_isSolid : GoodIn wsX10_alike wsX10_isSolid := goodIn_r _ [6] (by decide +kernel) (by decide +kernel)
set_option maxRecDepth 20000 in
theorem gX10_alike_X10_isSolid : GoodIn wsX10_alike (va_wsS RX10 194 yX10_isSolid wsX10_isSolid) := goodIn_app (goodIn_of _ (by decide +kernel)) ggX10_alike_X10_isSolid
set_option maxRecDepth 20000 in
theorem ggX10_alike_X1_sixOfSolid : GoodIn wsX10_alike wsX1_sixOfSolid := goodIn_r _ [11, 12, 13, 14, 39, 40, 41, 42, 43, 44] (by decide +kernel) (by decide +kernel)
set_option maxRecDepth 20000 in
theorem gX10_alike_X1_sixOfSolid : GoodIn wsX10_alike (wsV RX10 197 RX1 yX1_sixOfSolid wsX1_sixOfSolid) := goodIn_app (goodIn_of _ (by decide +kernel)) ggX10_alike_X1_sixOfSolid
set_option maxRecDepth 20000 in
theorem ggX10_alike_X8_firstUnlike : GoodIn wsX10_alike wsX8_firstUnlike := goodIn_r _ [19, 20, 21, 22, 23, 18, 24, 25, 45, 46, 47, 48] (by decide +kernel) (by decide +kernel)
set_option maxRecDepth 20000 in
theorem gX10_alike_X8_firstUnlike : GoodIn wsX10_alike (wsV RX10 229 RX8 yX8_firstUnlike wsX8_firstUnlike) := goodIn_app (goodIn_of _ (by decide +kernel)) ggX10_alike_X8_firstUnlike
theorem dX10_alike_0 : decode cX10_alike 0 = .ok (.iload_n 1, 1) := by decide +kernel
theorem dX10_alike_1 : decode cX10_alike 1 = .ok (.invokestatic 194, 3) := by decide +kernel
theorem dX10_alike_4 : decode cX10_alike 4 = .ok (.ifCond .eq 10, 3) := by decide +kernel
theorem dX10_alike_7 : decode cX10_alike 7 = .ok (.iload_n 2, 1) := by decide +kernel
theorem dX10_alike_8 : decode cX10_alike 8 = .ok (.invokestatic 194, 3) := by decide +kernel
theorem dX10_alike_11 : decode cX10_alike 11 = .ok (.ifCond .ne 5, 3) := by decide +kernel
theorem dX10_alike_14 : decode cX10_alike 14 = .ok (.iconst (-1), 1) := by decide +kernel
theorem dX10_alike_15 : decode cX10_alike 15 = .ok (.ireturn, 1) := by decide +kernel
theorem dX10_alike_16 : decode cX10_alike 16 = .ok (.aload_n 0, 1) := by decide +kernel
theorem dX10_alike_17 : decode cX10_alike 17 = .ok (.getfield 28, 3) := by decide +kernel
theorem dX10_alike_20 : decode cX10_alike 20 = .ok (.iload_n 1, 1) := by decide +kernel
theorem dX10_alike_21 : decode cX10_alike 21 = .ok (.invokevirtual 197, 3) := by decide +kernel
theorem dX10_alike_24 : decode cX10_alike 24 = .ok (.aload_n 0, 1) := by decide +kernel
theorem dX10_alike_25 : decode cX10_alike 25 = .ok (.getfield 28, 3) := by decide +kernel
theorem dX10_alike_28 : decode cX10_alike 28 = .ok (.iload_n 2, 1) := by decide +kernel
theorem dX10_alike_29 : decode cX10_alike 29 = .ok (.invokevirtual 197, 3) := by decide +kernel
theorem dX10_alike_32 : decode cX10_alike 32 = .ok (.if_icmp .eq 5, 3) := by decide +kernel
theorem dX10_alike_35 : decode cX10_alike 35 = .ok (.iconst 1, 1) := by decide +kernel
theorem dX10_alike_36 : decode cX10_alike 36 = .ok (.ireturn, 1) := by decide +kernel
theorem dX10_alike_37 : decode cX10_alike 37 = .ok (.aload_n 0, 1) := by decide +kernel
theorem dX10_alike_38 : decode cX10_alike 38 = .ok (.getfield 51, 3) := by decide +kernel
theorem dX10_alike_41 : decode cX10_alike 41 = .ok (.iload_n 1, 1) := by decide +kernel
theorem dX10_alike_42 : decode cX10_alike 42 = .ok (.iload_n 2, 1) := by decide +kernel
theorem dX10_alike_43 : decode cX10_alike 43 = .ok (.invokevirtual 229, 3) := by decide +kernel
theorem dX10_alike_46 : decode cX10_alike 46 = .ok (.ifCond .ge 7, 3) := by decide +kernel
theorem dX10_alike_49 : decode cX10_alike 49 = .ok (.iconst 0, 1) := by decide +kernel
theorem dX10_alike_50 : decode cX10_alike 50 = .ok (.goto 4, 3) := by decide +kernel
theorem dX10_alike_53 : decode cX10_alike 53 = .ok (.iconst 2, 1) := by decide +kernel
theorem dX10_alike_54 : decode cX10_alike 54 = .ok (.ireturn, 1) := by decide +kernel
set_option maxRecDepth 20000 in
theorem ggX10_unlike_X10_isSolid : GoodIn wsX10_unlike wsX10_isSolid := goodIn_r _ [8] (by decide +kernel) (by decide +kernel)
set_option maxRecDepth 20000 in
theorem gX10_unlike_X10_isSolid : GoodIn wsX10_unlike (va_wsS RX10 194 yX10_isSolid wsX10_isSolid) := goodIn_app (goodIn_of _ (by decide +kernel)) ggX10_unlike_X10_isSolid
set_option maxRecDepth 20000 in
theorem ggX10_unlike_X8_firstUnlike : GoodIn wsX10_unlike wsX8_firstUnlike := goodIn_r _ [13, 14, 15, 16, 17, 12, 18, 19, 34, 35, 36, 37] (by decide +kernel) (by decide +kernel)
set_option maxRecDepth 20000 in
theorem gX10_unlike_X8_firstUnlike : GoodIn wsX10_unlike (wsV RX10 229 RX8 yX8_firstUnlike wsX8_firstUnlike) := goodIn_app (goodIn_of _ (by decide +kernel)) ggX10_unlike_X8_firstUnlike
set_option maxRecDepth 20000 in
theorem ggX10_unlike_X8_at : GoodIn wsX10_unlike wsX8_at := goodIn_r _ [18, 14, 19, 34, 35, 36, 37] (by decide +kernel) (by decide +kernel)
set_option maxRecDepth 20000 in
theorem gX10_unlike_X8_at : GoodIn wsX10_unlike (wsV RX10 219 RX8 yX8_at wsX8_at) := goodIn_app (goodIn_of _ (by decide +kernel)) ggX10_unlike_X8_at
theorem dX10_unlike_0 : decode cX10_unlike 0 = .ok (.iload_n 1, 1) := by decide +kernel
theorem dX10_unlike_1 : decode cX10_unlike 1 = .ok (.invokestatic 194, 3) := by decide +kernel
theorem dX10_unlike_4 : decode cX10_unlike 4 = .ok (.ifCond .eq 10, 3) := by decide +kernel
theorem dX10_unlike_7 : decode cX10_unlike 7 = .ok (.iload_n 2, 1) := by decide +kernel
theorem dX10_unlike_8 : decode cX10_unlike 8 = .ok (.invokestatic 194, 3) := by decide +kernel
theorem dX10_unlike_11 : decode cX10_unlike 11 = .ok (.ifCond .ne 6, 3) := by decide +kernel
theorem dX10_unlike_14 : decode cX10_unlike 14 = .ok (.ldc 140, 2) := by decide +kernel
theorem dX10_unlike_16 : decode cX10_unlike 16 = .ok (.ireturn, 1) := by decide +kernel
theorem dX10_unlike_17 : decode cX10_unlike 17 = .ok (.aload_n 0, 1) := by decide +kernel
theorem dX10_unlike_18 : decode cX10_unlike 18 = .ok (.getfield 51, 3) := by decide +kernel
theorem dX10_unlike_21 : decode cX10_unlike 21 = .ok (.iload_n 1, 1) := by decide +kernel
theorem dX10_unlike_22 : decode cX10_unlike 22 = .ok (.iload_n 2, 1) := by decide +kernel
theorem dX10_unlike_23 : decode cX10_unlike 23 = .ok (.invokevirtual 229, 3) := by decide +kernel
theorem dX10_unlike_26 : decode cX10_unlike 26 = .ok (.istore 4, 2) := by decide +kernel
theorem dX10_unlike_28 : decode cX10_unlike 28 = .ok (.iload 4, 2) := by decide +kernel
theorem dX10_unlike_30 : decode cX10_unlike 30 = .ok (.ifCond .ge 6, 3) := by decide +kernel
theorem dX10_unlike_33 : decode cX10_unlike 33 = .ok (.ldc 140, 2) := by decide +kernel
theorem dX10_unlike_35 : decode cX10_unlike 35 = .ok (.ireturn, 1) := by decide +kernel
theorem dX10_unlike_36 : decode cX10_unlike 36 = .ok (.iload_n 3, 1) := by decide +kernel
theorem dX10_unlike_37 : decode cX10_unlike 37 = .ok (.tableswitch 71 0 2 #[27, 38, 49], 27) := by decide +kernel
theorem dX10_unlike_64 : decode cX10_unlike 64 = .ok (.aload_n 0, 1) := by decide +kernel
theorem dX10_unlike_65 : decode cX10_unlike 65 = .ok (.getfield 51, 3) := by decide +kernel
theorem dX10_unlike_68 : decode cX10_unlike 68 = .ok (.getfield 213, 3) := by decide +kernel
theorem dX10_unlike_71 : decode cX10_unlike 71 = .ok (.iload 4, 2) := by decide +kernel
theorem dX10_unlike_73 : decode cX10_unlike 73 = .ok (.iaload, 1) := by decide +kernel
theorem dX10_unlike_74 : decode cX10_unlike 74 = .ok (.ireturn, 1) := by decide +kernel
theorem dX10_unlike_75 : decode cX10_unlike 75 = .ok (.aload_n 0, 1) := by decide +kernel
theorem dX10_unlike_76 : decode cX10_unlike 76 = .ok (.getfield 51, 3) := by decide +kernel
theorem dX10_unlike_79 : decode cX10_unlike 79 = .ok (.getfield 216, 3) := by decide +kernel
theorem dX10_unlike_82 : decode cX10_unlike 82 = .ok (.iload 4, 2) := by decide +kernel
theorem dX10_unlike_84 : decode cX10_unlike 84 = .ok (.iaload, 1) := by decide +kernel
theorem dX10_unlike_85 : decode cX10_unlike 85 = .ok (.ireturn, 1) := by decide +kernel
theorem dX10_unlike_86 : decode cX10_unlike 86 = .ok (.aload_n 0, 1) := by decide +kernel
theorem dX10_unlike_87 : decode cX10_unlike 87 = .ok (.getfield 51, 3) := by decide +kernel
theorem dX10_unlike_90 : decode cX10_unlike 90 = .ok (.iload 4, 2) := by decide +kernel
theorem dX10_unlike_92 : decode cX10_unlike 92 = .ok (.iload_n 1, 1) := by decide +kernel
theorem dX10_unlike_93 : decode cX10_unlike 93 = .ok (.invokevirtual 219, 3) := by decide +kernel
theorem dX10_unlike_96 : decode cX10_unlike 96 = .ok (.aload_n 0, 1) := by decide +kernel
theorem dX10_unlike_97 : decode cX10_unlike 97 = .ok (.getfield 51, 3) := by decide +kernel
theorem dX10_unlike_100 : decode cX10_unlike 100 = .ok (.iload 4, 2) := by decide +kernel
theorem dX10_unlike_102 : decode cX10_unlike 102 = .ok (.iload_n 2, 1) := by decide +kernel
theorem dX10_unlike_103 : decode cX10_unlike 103 = .ok (.invokevirtual 219, 3) := by decide +kernel
theorem dX10_unlike_106 : decode cX10_unlike 106 = .ok (.isub, 1) := by decide +kernel
theorem dX10_unlike_107 : decode cX10_unlike 107 = .ok (.ireturn, 1) := by decide +kernel
theorem dX10_unlike_108 : decode cX10_unlike 108 = .ok (.ldc 140, 2) := by decide +kernel
theorem dX10_unlike_110 : decode cX10_unlike 110 = .ok (.ireturn, 1) := by decide +kernel
set_option maxRecDepth 20000 in
theorem ggX10_lacks_X10_isSolid : GoodIn wsX10_lacks wsX10_isSolid := goodIn_r _ [6] (by decide +kernel) (by decide +kernel)
set_option maxRecDepth 20000 in
theorem gX10_lacks_X10_isSolid : GoodIn wsX10_lacks (va_wsS RX10 194 yX10_isSolid wsX10_isSolid) := goodIn_app (goodIn_of _ (by decide +kernel)) ggX10_lacks_X10_isSolid
set_option maxRecDepth 20000 in
theorem ggX10_lacks_X1_sixOfSolid : GoodIn wsX10_lacks wsX1_sixOfSolid := goodIn_r _ [11, 12, 13, 14, 28, 29, 30, 31, 32, 33] (by decide +kernel) (by decide +kernel)
set_option maxRecDepth 20000 in
theorem gX10_lacks_X1_sixOfSolid : GoodIn wsX10_lacks (wsV RX10 197 RX1 yX1_sixOfSolid wsX1_sixOfSolid) := goodIn_app (goodIn_of _ (by decide +kernel)) ggX10_lacks_X1_sixOfSolid
theorem dX10_lacks_0 : decode cX10_lacks 0 = .ok (.iload_n 1, 1) := by decide +kernel
theorem dX10_lacks_1 : decode cX10_lacks 1 = .ok (.invokestatic 194, 3) := by decide +kernel
theorem dX10_lacks_4 : decode cX10_lacks 4 = .ok (.ifCond .eq 10, 3) := by decide +kernel
theorem dX10_lacks_7 : decode cX10_lacks 7 = .ok (.iload_n 2, 1) := by decide +kernel
theorem dX10_lacks_8 : decode cX10_lacks 8 = .ok (.invokestatic 194, 3) := by decide +kernel
theorem dX10_lacks_11 : decode cX10_lacks 11 = .ok (.ifCond .ne 6, 3) := by decide +kernel
theorem dX10_lacks_14 : decode cX10_lacks 14 = .ok (.ldc 140, 2) := by decide +kernel
theorem dX10_lacks_16 : decode cX10_lacks 16 = .ok (.ireturn, 1) := by decide +kernel
theorem dX10_lacks_17 : decode cX10_lacks 17 = .ok (.aload_n 0, 1) := by decide +kernel
theorem dX10_lacks_18 : decode cX10_lacks 18 = .ok (.getfield 28, 3) := by decide +kernel
theorem dX10_lacks_21 : decode cX10_lacks 21 = .ok (.iload_n 1, 1) := by decide +kernel
theorem dX10_lacks_22 : decode cX10_lacks 22 = .ok (.invokevirtual 197, 3) := by decide +kernel
theorem dX10_lacks_25 : decode cX10_lacks 25 = .ok (.aload_n 0, 1) := by decide +kernel
theorem dX10_lacks_26 : decode cX10_lacks 26 = .ok (.getfield 28, 3) := by decide +kernel
theorem dX10_lacks_29 : decode cX10_lacks 29 = .ok (.iload_n 2, 1) := by decide +kernel
theorem dX10_lacks_30 : decode cX10_lacks 30 = .ok (.invokevirtual 197, 3) := by decide +kernel
theorem dX10_lacks_33 : decode cX10_lacks 33 = .ok (.isub, 1) := by decide +kernel
theorem dX10_lacks_34 : decode cX10_lacks 34 = .ok (.ireturn, 1) := by decide +kernel
set_option maxRecDepth 20000 in
theorem ggX10_where_X1_has : GoodIn wsX10_where wsX1_has := goodIn_r _ [8, 9, 61, 62, 63, 64, 65, 66] (by decide +kernel) (by decide +kernel)
set_option maxRecDepth 20000 in
theorem gX10_where_X1_has : GoodIn wsX10_where (wsV RX10 141 RX1 yX1_has wsX1_has) := goodIn_app (goodIn_of _ (by decide +kernel)) ggX10_where_X1_has
set_option maxRecDepth 20000 in
theorem ggX10_where_X10_isNear : GoodIn wsX10_where wsX10_isNear := goodIn_r _ [13] (by decide +kernel) (by decide +kernel)
set_option maxRecDepth 20000 in
theorem gX10_where_X10_isNear : GoodIn wsX10_where (va_wsS RX10 232 yX10_isNear wsX10_isNear) := goodIn_app (goodIn_of _ (by decide +kernel)) ggX10_where_X10_isNear
set_option maxRecDepth 20000 in
theorem ggX10_where_X4_load : GoodIn wsX10_where wsX4_load := goodIn_r _ [18, 19, 20, 21, 22, 23, 24, 25, 26, 27, 28, 29, 30, 31, 32, 33, 7, 34, 35, 36, 37, 17, 38, 39, 40, 41, 42, 43, 67, 68, 69, 70, 71, 72, 73] (by decide +kernel) (by decide +kernel)
set_option maxRecDepth 20000 in
theorem gX10_where_X4_load : GoodIn wsX10_where (wsV RX10 235 RX4 yX4_load wsX4_load) := goodIn_app (goodIn_of _ (by decide +kernel)) ggX10_where_X4_load
set_option maxRecDepth 20000 in
theorem ggX10_where_X4_place : GoodIn wsX10_where wsX4_place := goodIn_r _ [47, 40, 41, 42, 17, 43, 39, 67, 68, 69, 70, 71, 72, 73] (by decide +kernel) (by decide +kernel)
set_option maxRecDepth 20000 in
theorem gX10_where_X4_place : GoodIn wsX10_where (wsV RX10 239 RX4 yX4_place wsX4_place) := goodIn_app (goodIn_of _ (by decide +kernel)) ggX10_where_X4_place
theorem dX10_where_0 : decode cX10_where 0 = .ok (.aload_n 0, 1) := by decide +kernel
theorem dX10_where_1 : decode cX10_where 1 = .ok (.getfield 28, 3) := by decide +kernel
theorem dX10_where_4 : decode cX10_where 4 = .ok (.iload_n 1, 1) := by decide +kernel
theorem dX10_where_5 : decode cX10_where 5 = .ok (.invokevirtual 141, 3) := by decide +kernel
theorem dX10_where_8 : decode cX10_where 8 = .ok (.ifCond .ne 5, 3) := by decide +kernel
theorem dX10_where_11 : decode cX10_where 11 = .ok (.iconst (-1), 1) := by decide +kernel
theorem dX10_where_12 : decode cX10_where 12 = .ok (.ireturn, 1) := by decide +kernel
theorem dX10_where_13 : decode cX10_where 13 = .ok (.iload_n 2, 1) := by decide +kernel
theorem dX10_where_14 : decode cX10_where 14 = .ok (.invokestatic 232, 3) := by decide +kernel
theorem dX10_where_17 : decode cX10_where 17 = .ok (.ifCond .eq 18, 3) := by decide +kernel
theorem dX10_where_20 : decode cX10_where 20 = .ok (.iload_n 3, 1) := by decide +kernel
theorem dX10_where_21 : decode cX10_where 21 = .ok (.invokestatic 232, 3) := by decide +kernel
theorem dX10_where_24 : decode cX10_where 24 = .ok (.ifCond .eq 11, 3) := by decide +kernel
theorem dX10_where_27 : decode cX10_where 27 = .ok (.iload 4, 2) := by decide +kernel
theorem dX10_where_29 : decode cX10_where 29 = .ok (.invokestatic 232, 3) := by decide +kernel
theorem dX10_where_32 : decode cX10_where 32 = .ok (.ifCond .ne 5, 3) := by decide +kernel
theorem dX10_where_35 : decode cX10_where 35 = .ok (.iconst 0, 1) := by decide +kernel
theorem dX10_where_36 : decode cX10_where 36 = .ok (.ireturn, 1) := by decide +kernel
theorem dX10_where_37 : decode cX10_where 37 = .ok (.aload_n 0, 1) := by decide +kernel
theorem dX10_where_38 : decode cX10_where 38 = .ok (.getfield 68, 3) := by decide +kernel
theorem dX10_where_41 : decode cX10_where 41 = .ok (.aload_n 0, 1) := by decide +kernel
theorem dX10_where_42 : decode cX10_where 42 = .ok (.getfield 28, 3) := by decide +kernel
theorem dX10_where_45 : decode cX10_where 45 = .ok (.getfield 158, 3) := by decide +kernel
theorem dX10_where_48 : decode cX10_where 48 = .ok (.iload_n 1, 1) := by decide +kernel
theorem dX10_where_49 : decode cX10_where 49 = .ok (.bipush 12, 2) := by decide +kernel
theorem dX10_where_51 : decode cX10_where 51 = .ok (.imul, 1) := by decide +kernel
theorem dX10_where_52 : decode cX10_where 52 = .ok (.invokevirtual 235, 3) := by decide +kernel
theorem dX10_where_55 : decode cX10_where 55 = .ok (.aload_n 0, 1) := by decide +kernel
theorem dX10_where_56 : decode cX10_where 56 = .ok (.getfield 68, 3) := by decide +kernel
theorem dX10_where_59 : decode cX10_where 59 = .ok (.iload_n 2, 1) := by decide +kernel
theorem dX10_where_60 : decode cX10_where 60 = .ok (.iload_n 3, 1) := by decide +kernel
theorem dX10_where_61 : decode cX10_where 61 = .ok (.iload 4, 2) := by decide +kernel
theorem dX10_where_63 : decode cX10_where 63 = .ok (.invokevirtual 239, 3) := by decide +kernel
theorem dX10_where_66 : decode cX10_where 66 = .ok (.ireturn, 1) := by decide +kernel
set_option maxRecDepth 20000 in
theorem ggX10_cut_X1_has : GoodIn wsX10_cut wsX1_has := goodIn_r _ [9, 10, 228, 229, 230, 231, 232, 233] (by decide +kernel) (by decide +kernel)
set_option maxRecDepth 20000 in
theorem gX10_cut_X1_has : GoodIn wsX10_cut (wsV RX10 141 RX1 yX1_has wsX1_has) := goodIn_app (goodIn_of _ (by decide +kernel)) ggX10_cut_X1_has
set_option maxRecDepth 20000 in
theorem ggX10_cut_X10_isNear : GoodIn wsX10_cut wsX10_isNear := goodIn_r _ [14] (by decide +kernel) (by decide +kernel)
set_option maxRecDepth 20000 in
theorem gX10_cut_X10_isNear : GoodIn wsX10_cut (va_wsS RX10 232 yX10_isNear wsX10_isNear) := goodIn_app (goodIn_of _ (by decide +kernel)) ggX10_cut_X10_isNear
set_option maxRecDepth 20000 in
theorem ggX10_cut_X4_load : GoodIn wsX10_cut wsX4_load := goodIn_r _ [19, 20, 21, 22, 23, 24, 25, 26, 27, 28, 29, 30, 31, 32, 33, 34, 8, 35, 36, 37, 38, 18, 39, 40, 41, 42, 43, 44, 234, 235, 236, 237, 238, 239, 240] (by decide +kernel) (by decide +kernel)
set_option maxRecDepth 20000 in
theorem gX10_cut_X4_load : GoodIn wsX10_cut (wsV RX10 235 RX4 yX4_load wsX4_load) := goodIn_app (goodIn_of _ (by decide +kernel)) ggX10_cut_X4_load
set_option maxRecDepth 20000 in
theorem ggX10_cut_X4_place : GoodIn wsX10_cut wsX4_place := goodIn_r _ [48, 41, 42, 43, 18, 44, 40, 234, 235, 236, 237, 238, 239, 240] (by decide +kernel) (by decide +kernel)
set_option maxRecDepth 20000 in
theorem gX10_cut_X4_place : GoodIn wsX10_cut (wsV RX10 239 RX4 yX4_place wsX4_place) := goodIn_app (goodIn_of _ (by decide +kernel)) ggX10_cut_X4_place
set_option maxRecDepth 20000 in
theorem ggX10_cut_X10_weigh : GoodIn wsX10_cut wsX10_weigh := goodIn_r _ [52, 53, 1, 3, 54, 55, 56, 57, 58, 59, 60, 61, 62, 63, 64, 65, 66, 67, 68, 69, 70, 71, 21, 22, 23, 72, 73, 74, 75, 76, 77, 78, 79, 80, 81, 82, 83, 84, 85, 86, 87, 88, 34, 8, 35, 89, 13, 90, 91, 92, 93, 94, 95, 96, 97, 98, 99, 100, 101, 102, 31, 32, 103, 28, 29, 104, 105, 106, 107, 108, 109, 110, 111, 112, 113, 114, 115, 116, 117, 118, 119, 120, 121, 122, 123, 124, 125, 126, 127, 128, 129, 130, 131, 132, 133, 134, 135, 136, 137, 138, 139, 140, 141, 142, 143, 144, 145, 146, 147, 148, 149, 150, 151, 152, 153, 154, 155, 156, 157, 158, 159, 160, 161, 162, 163, 164, 165, 166, 167, 168, 169, 170, 171, 172, 173, 174, 175, 176, 177, 178, 179, 180, 215, 216, 217, 218, 219, 220, 221, 222, 223, 224, 225, 226, 227, 228, 229, 230, 231, 232, 233, 241, 242, 243, 244, 245, 246, 247, 248, 249, 250, 251, 252, 253, 254, 255, 256, 257] (by decide +kernel) (by decide +kernel)
set_option maxRecDepth 20000 in
theorem gX10_cut_X10_weigh : GoodIn wsX10_cut (wsV RX10 243 RX10 yX10_weigh wsX10_weigh) := goodIn_app (goodIn_of _ (by decide +kernel)) ggX10_cut_X10_weigh
set_option maxRecDepth 20000 in
theorem ggX10_cut_X1_cutAt : GoodIn wsX10_cut wsX1_cutAt := goodIn_r _ [184, 185, 186, 187, 159, 160, 161, 188, 189, 190, 34, 8, 35, 191, 192, 193, 194, 195, 196, 21, 22, 23, 197, 198, 199, 200, 10, 228, 229, 230, 231, 232, 233] (by decide +kernel) (by decide +kernel)
set_option maxRecDepth 20000 in
theorem gX10_cut_X1_cutAt : GoodIn wsX10_cut (wsV RX10 247 RX1 yX1_cutAt wsX1_cutAt) := goodIn_app (goodIn_of _ (by decide +kernel)) ggX10_cut_X1_cutAt
set_option maxRecDepth 20000 in
theorem ggX10_cut_X10_weighFrom : GoodIn wsX10_cut wsX10_weighFrom := goodIn_r _ [204, 1, 4, 49, 50, 51, 13, 52, 53, 3, 54, 55, 56, 57, 58, 59, 60, 61, 62, 63, 64, 65, 66, 67, 68, 69, 70, 71, 21, 22, 23, 72, 73, 74, 75, 76, 77, 78, 79, 80, 81, 82, 83, 84, 85, 86, 87, 88, 34, 8, 35, 89, 90, 91, 92, 93, 94, 95, 96, 97, 98, 99, 100, 101, 102, 31, 32, 103, 28, 29, 104, 105, 106, 107, 108, 109, 110, 111, 112, 113, 114, 115, 116, 117, 118, 119, 120, 121, 122, 123, 124, 125, 126, 127, 128, 129, 130, 131, 132, 133, 134, 135, 136, 137, 138, 139, 140, 141, 142, 143, 144, 145, 146, 147, 148, 149, 150, 151, 152, 153, 154, 155, 156, 157, 158, 159, 160, 161, 162, 163, 164, 165, 166, 167, 168, 169, 170, 171, 172, 173, 174, 175, 176, 177, 178, 179, 180, 215, 216, 217, 218, 219, 220, 221, 222, 223, 224, 225, 226, 227, 228, 229, 230, 231, 232, 233, 241, 242, 243, 244, 245, 246, 247, 248, 249, 250, 251, 252, 253, 254, 255, 256, 257] (by decide +kernel) (by decide +kernel)
set_option maxRecDepth 20000 in
theorem gX10_cut_X10_weighFrom : GoodIn wsX10_cut (wsV RX10 127 RX10 yX10_weighFrom wsX10_weighFrom) := goodIn_app (goodIn_of _ (by decide +kernel)) ggX10_cut_X10_weighFrom
set_option maxRecDepth 20000 in
theorem ggX10_cut_X10_forgetPicks : GoodIn wsX10_cut wsX10_forgetPicks := goodIn_r _ [208, 209, 210, 211, 212, 213, 128, 214, 131, 215, 216, 217, 218, 219, 220, 221, 222, 223, 224, 225, 226, 227, 254, 255, 256, 257] (by decide +kernel) (by decide +kernel)
set_option maxRecDepth 20000 in
theorem gX10_cut_X10_forgetPicks : GoodIn wsX10_cut (wsV RX10 114 RX10 yX10_forgetPicks wsX10_forgetPicks) := goodIn_app (goodIn_of _ (by decide +kernel)) ggX10_cut_X10_forgetPicks
theorem dX10_cut_0 : decode cX10_cut 0 = .ok (.aload_n 0, 1) := by decide +kernel
theorem dX10_cut_1 : decode cX10_cut 1 = .ok (.getfield 28, 3) := by decide +kernel
theorem dX10_cut_4 : decode cX10_cut 4 = .ok (.iload_n 1, 1) := by decide +kernel
theorem dX10_cut_5 : decode cX10_cut 5 = .ok (.invokevirtual 141, 3) := by decide +kernel
theorem dX10_cut_8 : decode cX10_cut 8 = .ok (.ifCond .ne 5, 3) := by decide +kernel
theorem dX10_cut_11 : decode cX10_cut 11 = .ok (.iconst (-1), 1) := by decide +kernel
theorem dX10_cut_12 : decode cX10_cut 12 = .ok (.ireturn, 1) := by decide +kernel
theorem dX10_cut_13 : decode cX10_cut 13 = .ok (.iload_n 2, 1) := by decide +kernel
theorem dX10_cut_14 : decode cX10_cut 14 = .ok (.invokestatic 232, 3) := by decide +kernel
theorem dX10_cut_17 : decode cX10_cut 17 = .ok (.ifCond .eq 18, 3) := by decide +kernel
theorem dX10_cut_20 : decode cX10_cut 20 = .ok (.iload_n 3, 1) := by decide +kernel
theorem dX10_cut_21 : decode cX10_cut 21 = .ok (.invokestatic 232, 3) := by decide +kernel
theorem dX10_cut_24 : decode cX10_cut 24 = .ok (.ifCond .eq 11, 3) := by decide +kernel
theorem dX10_cut_27 : decode cX10_cut 27 = .ok (.iload 4, 2) := by decide +kernel
theorem dX10_cut_29 : decode cX10_cut 29 = .ok (.invokestatic 232, 3) := by decide +kernel
theorem dX10_cut_32 : decode cX10_cut 32 = .ok (.ifCond .ne 6, 3) := by decide +kernel
theorem dX10_cut_35 : decode cX10_cut 35 = .ok (.bipush (-2), 2) := by decide +kernel
theorem dX10_cut_37 : decode cX10_cut 37 = .ok (.ireturn, 1) := by decide +kernel
theorem dX10_cut_38 : decode cX10_cut 38 = .ok (.aload_n 0, 1) := by decide +kernel
theorem dX10_cut_39 : decode cX10_cut 39 = .ok (.getfield 68, 3) := by decide +kernel
theorem dX10_cut_42 : decode cX10_cut 42 = .ok (.aload_n 0, 1) := by decide +kernel
theorem dX10_cut_43 : decode cX10_cut 43 = .ok (.getfield 28, 3) := by decide +kernel
theorem dX10_cut_46 : decode cX10_cut 46 = .ok (.getfield 158, 3) := by decide +kernel
theorem dX10_cut_49 : decode cX10_cut 49 = .ok (.iload_n 1, 1) := by decide +kernel
theorem dX10_cut_50 : decode cX10_cut 50 = .ok (.bipush 12, 2) := by decide +kernel
theorem dX10_cut_52 : decode cX10_cut 52 = .ok (.imul, 1) := by decide +kernel
theorem dX10_cut_53 : decode cX10_cut 53 = .ok (.invokevirtual 235, 3) := by decide +kernel
theorem dX10_cut_56 : decode cX10_cut 56 = .ok (.aload_n 0, 1) := by decide +kernel
theorem dX10_cut_57 : decode cX10_cut 57 = .ok (.getfield 68, 3) := by decide +kernel
theorem dX10_cut_60 : decode cX10_cut 60 = .ok (.iload_n 2, 1) := by decide +kernel
theorem dX10_cut_61 : decode cX10_cut 61 = .ok (.iload_n 3, 1) := by decide +kernel
theorem dX10_cut_62 : decode cX10_cut 62 = .ok (.iload 4, 2) := by decide +kernel
theorem dX10_cut_64 : decode cX10_cut 64 = .ok (.invokevirtual 239, 3) := by decide +kernel
theorem dX10_cut_67 : decode cX10_cut 67 = .ok (.istore 5, 2) := by decide +kernel
theorem dX10_cut_69 : decode cX10_cut 69 = .ok (.iload 5, 2) := by decide +kernel
theorem dX10_cut_71 : decode cX10_cut 71 = .ok (.iconst 2, 1) := by decide +kernel
theorem dX10_cut_72 : decode cX10_cut 72 = .ok (.if_icmp .ge 6, 3) := by decide +kernel
theorem dX10_cut_75 : decode cX10_cut 75 = .ok (.bipush (-3), 2) := by decide +kernel
theorem dX10_cut_77 : decode cX10_cut 77 = .ok (.ireturn, 1) := by decide +kernel
theorem dX10_cut_78 : decode cX10_cut 78 = .ok (.aload_n 0, 1) := by decide +kernel
theorem dX10_cut_79 : decode cX10_cut 79 = .ok (.getfield 28, 3) := by decide +kernel
theorem dX10_cut_82 : decode cX10_cut 82 = .ok (.getfield 108, 3) := by decide +kernel
theorem dX10_cut_85 : decode cX10_cut 85 = .ok (.iload 5, 2) := by decide +kernel
theorem dX10_cut_87 : decode cX10_cut 87 = .ok (.iadd, 1) := by decide +kernel
theorem dX10_cut_88 : decode cX10_cut 88 = .ok (.iconst 1, 1) := by decide +kernel
theorem dX10_cut_89 : decode cX10_cut 89 = .ok (.isub, 1) := by decide +kernel
theorem dX10_cut_90 : decode cX10_cut 90 = .ok (.bipush 48, 2) := by decide +kernel
theorem dX10_cut_92 : decode cX10_cut 92 = .ok (.if_icmp .le 6, 3) := by decide +kernel
theorem dX10_cut_95 : decode cX10_cut 95 = .ok (.bipush (-4), 2) := by decide +kernel
theorem dX10_cut_97 : decode cX10_cut 97 = .ok (.ireturn, 1) := by decide +kernel
theorem dX10_cut_98 : decode cX10_cut 98 = .ok (.aload_n 0, 1) := by decide +kernel
theorem dX10_cut_99 : decode cX10_cut 99 = .ok (.iload_n 1, 1) := by decide +kernel
theorem dX10_cut_100 : decode cX10_cut 100 = .ok (.iconst (-1), 1) := by decide +kernel
theorem dX10_cut_101 : decode cX10_cut 101 = .ok (.invokevirtual 243, 3) := by decide +kernel
theorem dX10_cut_104 : decode cX10_cut 104 = .ok (.aload_n 0, 1) := by decide +kernel
theorem dX10_cut_105 : decode cX10_cut 105 = .ok (.getfield 28, 3) := by decide +kernel
theorem dX10_cut_108 : decode cX10_cut 108 = .ok (.getfield 108, 3) := by decide +kernel
theorem dX10_cut_111 : decode cX10_cut 111 = .ok (.istore 6, 2) := by decide +kernel
theorem dX10_cut_113 : decode cX10_cut 113 = .ok (.aload_n 0, 1) := by decide +kernel
theorem dX10_cut_114 : decode cX10_cut 114 = .ok (.getfield 28, 3) := by decide +kernel
theorem dX10_cut_117 : decode cX10_cut 117 = .ok (.iload_n 1, 1) := by decide +kernel
theorem dX10_cut_118 : decode cX10_cut 118 = .ok (.iload_n 2, 1) := by decide +kernel
theorem dX10_cut_119 : decode cX10_cut 119 = .ok (.iload_n 3, 1) := by decide +kernel
theorem dX10_cut_120 : decode cX10_cut 120 = .ok (.iload 4, 2) := by decide +kernel
theorem dX10_cut_122 : decode cX10_cut 122 = .ok (.invokevirtual 247, 3) := by decide +kernel
theorem dX10_cut_125 : decode cX10_cut 125 = .ok (.aload_n 0, 1) := by decide +kernel
theorem dX10_cut_126 : decode cX10_cut 126 = .ok (.iload_n 1, 1) := by decide +kernel
theorem dX10_cut_127 : decode cX10_cut 127 = .ok (.iconst 1, 1) := by decide +kernel
theorem dX10_cut_128 : decode cX10_cut 128 = .ok (.invokevirtual 243, 3) := by decide +kernel
theorem dX10_cut_131 : decode cX10_cut 131 = .ok (.aload_n 0, 1) := by decide +kernel
theorem dX10_cut_132 : decode cX10_cut 132 = .ok (.iload 6, 2) := by decide +kernel
theorem dX10_cut_134 : decode cX10_cut 134 = .ok (.invokevirtual 127, 3) := by decide +kernel
theorem dX10_cut_137 : decode cX10_cut 137 = .ok (.aload_n 0, 1) := by decide +kernel
theorem dX10_cut_138 : decode cX10_cut 138 = .ok (.invokevirtual 114, 3) := by decide +kernel
theorem dX10_cut_141 : decode cX10_cut 141 = .ok (.iload 5, 2) := by decide +kernel
theorem dX10_cut_143 : decode cX10_cut 143 = .ok (.ireturn, 1) := by decide +kernel
set_option maxRecDepth 20000 in
theorem ggX10_join_X1_has : GoodIn wsX10_join wsX1_has := goodIn_r _ [14, 15, 210, 211, 212, 213, 214, 215] (by decide +kernel) (by decide +kernel)
set_option maxRecDepth 20000 in
theorem gX10_join_X1_has : GoodIn wsX10_join (wsV RX10 141 RX1 yX1_has wsX1_has) := goodIn_app (goodIn_of _ (by decide +kernel)) ggX10_join_X1_has
set_option maxRecDepth 20000 in
theorem ggX10_join_X1_loneCorner : GoodIn wsX10_join wsX1_loneCorner := goodIn_r _ [19, 20, 21, 22, 13, 23, 24, 210, 211, 212, 213, 214, 215] (by decide +kernel) (by decide +kernel)
set_option maxRecDepth 20000 in
theorem gX10_join_X1_loneCorner : GoodIn wsX10_join (wsV RX10 259 RX1 yX1_loneCorner wsX1_loneCorner) := goodIn_app (goodIn_of _ (by decide +kernel)) ggX10_join_X1_loneCorner
set_option maxRecDepth 20000 in
theorem ggX10_join_X1_cornerBetween : GoodIn wsX10_join wsX1_cornerBetween := goodIn_r _ [28, 29, 30, 31, 13, 32, 24, 210, 211, 212, 213, 214, 215] (by decide +kernel) (by decide +kernel)
set_option maxRecDepth 20000 in
theorem gX10_join_X1_cornerBetween : GoodIn wsX10_join (wsV RX10 262 RX1 yX1_cornerBetween wsX1_cornerBetween) := goodIn_app (goodIn_of _ (by decide +kernel)) ggX10_join_X1_cornerBetween
set_option maxRecDepth 20000 in
theorem ggX10_join_X10_weigh : GoodIn wsX10_join wsX10_weigh := goodIn_r _ [37, 38, 1, 39, 40, 41, 42, 43, 2, 44, 45, 46, 47, 48, 49, 50, 51, 52, 53, 54, 55, 56, 57, 5, 58, 59, 60, 61, 62, 63, 64, 65, 66, 67, 68, 69, 70, 71, 72, 73, 74, 75, 76, 13, 77, 78, 36, 79, 80, 81, 82, 83, 84, 85, 86, 87, 88, 89, 90, 91, 8, 9, 92, 4, 6, 93, 94, 95, 96, 97, 98, 99, 100, 101, 102, 103, 104, 105, 106, 107, 108, 109, 110, 111, 112, 113, 114, 115, 116, 117, 118, 119, 120, 121, 122, 123, 124, 125, 126, 127, 128, 129, 130, 131, 132, 133, 134, 135, 136, 137, 138, 139, 140, 141, 142, 143, 144, 145, 146, 147, 148, 149, 150, 151, 152, 153, 154, 155, 156, 157, 158, 159, 160, 161, 162, 163, 164, 165, 166, 167, 168, 169, 197, 198, 199, 200, 201, 202, 203, 204, 205, 206, 207, 208, 209, 210, 211, 212, 213, 214, 215, 216, 217, 218, 219, 220, 221, 222, 223, 224, 225, 226, 227, 228, 229, 230, 231, 232] (by decide +kernel) (by decide +kernel)
set_option maxRecDepth 20000 in
theorem gX10_join_X10_weigh : GoodIn wsX10_join (wsV RX10 243 RX10 yX10_weigh wsX10_weigh) := goodIn_app (goodIn_of _ (by decide +kernel)) ggX10_join_X10_weigh
set_option maxRecDepth 20000 in
theorem ggX10_join_X1_copyCorner : GoodIn wsX10_join wsX1_copyCorner := goodIn_r _ [173, 24, 174, 148, 149, 150, 210, 211, 212, 213, 214, 215] (by decide +kernel) (by decide +kernel)
set_option maxRecDepth 20000 in
theorem gX10_join_X1_copyCorner : GoodIn wsX10_join (wsV RX10 266 RX1 yX1_copyCorner wsX1_copyCorner) := goodIn_app (goodIn_of _ (by decide +kernel)) ggX10_join_X1_copyCorner
set_option maxRecDepth 20000 in
theorem ggX10_join_X1_measureTet : GoodIn wsX10_join wsX1_measureTet := goodIn_r _ [178, 179, 24, 180, 57, 5, 58, 181, 76, 13, 77, 210, 211, 212, 213, 214, 215] (by decide +kernel) (by decide +kernel)
set_option maxRecDepth 20000 in
theorem gX10_join_X1_measureTet : GoodIn wsX10_join (wsV RX10 269 RX1 yX1_measureTet wsX1_measureTet) := goodIn_app (goodIn_of _ (by decide +kernel)) ggX10_join_X1_measureTet
set_option maxRecDepth 20000 in
theorem ggX10_join_X1_remove : GoodIn wsX10_join wsX1_remove := goodIn_r _ [185, 15, 24, 174, 148, 149, 150, 186, 179, 210, 211, 212, 213, 214, 215] (by decide +kernel) (by decide +kernel)
set_option maxRecDepth 20000 in
theorem gX10_join_X1_remove : GoodIn wsX10_join (wsV RX10 272 RX1 yX1_remove wsX1_remove) := goodIn_app (goodIn_of _ (by decide +kernel)) ggX10_join_X1_remove
set_option maxRecDepth 20000 in
theorem ggX10_join_X10_forgetPicks : GoodIn wsX10_join wsX10_forgetPicks := goodIn_r _ [190, 191, 192, 193, 194, 195, 117, 196, 120, 197, 198, 199, 200, 201, 202, 203, 204, 205, 206, 207, 208, 209, 229, 230, 231, 232] (by decide +kernel) (by decide +kernel)
set_option maxRecDepth 20000 in
theorem gX10_join_X10_forgetPicks : GoodIn wsX10_join (wsV RX10 114 RX10 yX10_forgetPicks wsX10_forgetPicks) := goodIn_app (goodIn_of _ (by decide +kernel)) ggX10_join_X10_forgetPicks
theorem dX10_join_0 : decode cX10_join 0 = .ok (.aload_n 0, 1) := by decide +kernel
theorem dX10_join_1 : decode cX10_join 1 = .ok (.getfield 28, 3) := by decide +kernel
theorem dX10_join_4 : decode cX10_join 4 = .ok (.iload_n 1, 1) := by decide +kernel
theorem dX10_join_5 : decode cX10_join 5 = .ok (.invokevirtual 141, 3) := by decide +kernel
theorem dX10_join_8 : decode cX10_join 8 = .ok (.ifCond .eq 14, 3) := by decide +kernel
theorem dX10_join_11 : decode cX10_join 11 = .ok (.aload_n 0, 1) := by decide +kernel
theorem dX10_join_12 : decode cX10_join 12 = .ok (.getfield 28, 3) := by decide +kernel
theorem dX10_join_15 : decode cX10_join 15 = .ok (.iload_n 2, 1) := by decide +kernel
theorem dX10_join_16 : decode cX10_join 16 = .ok (.invokevirtual 141, 3) := by decide +kernel
theorem dX10_join_19 : decode cX10_join 19 = .ok (.ifCond .ne 5, 3) := by decide +kernel
theorem dX10_join_22 : decode cX10_join 22 = .ok (.iconst (-1), 1) := by decide +kernel
theorem dX10_join_23 : decode cX10_join 23 = .ok (.ireturn, 1) := by decide +kernel
theorem dX10_join_24 : decode cX10_join 24 = .ok (.iload_n 1, 1) := by decide +kernel
theorem dX10_join_25 : decode cX10_join 25 = .ok (.iload_n 2, 1) := by decide +kernel
theorem dX10_join_26 : decode cX10_join 26 = .ok (.if_icmp .eq 24, 3) := by decide +kernel
theorem dX10_join_29 : decode cX10_join 29 = .ok (.aload_n 0, 1) := by decide +kernel
theorem dX10_join_30 : decode cX10_join 30 = .ok (.getfield 28, 3) := by decide +kernel
theorem dX10_join_33 : decode cX10_join 33 = .ok (.getfield 152, 3) := by decide +kernel
theorem dX10_join_36 : decode cX10_join 36 = .ok (.iload_n 1, 1) := by decide +kernel
theorem dX10_join_37 : decode cX10_join 37 = .ok (.iaload, 1) := by decide +kernel
theorem dX10_join_38 : decode cX10_join 38 = .ok (.aload_n 0, 1) := by decide +kernel
theorem dX10_join_39 : decode cX10_join 39 = .ok (.getfield 28, 3) := by decide +kernel
theorem dX10_join_42 : decode cX10_join 42 = .ok (.getfield 152, 3) := by decide +kernel
theorem dX10_join_45 : decode cX10_join 45 = .ok (.iload_n 2, 1) := by decide +kernel
theorem dX10_join_46 : decode cX10_join 46 = .ok (.iaload, 1) := by decide +kernel
theorem dX10_join_47 : decode cX10_join 47 = .ok (.if_icmp .eq 6, 3) := by decide +kernel
theorem dX10_join_50 : decode cX10_join 50 = .ok (.bipush (-3), 2) := by decide +kernel
theorem dX10_join_52 : decode cX10_join 52 = .ok (.ireturn, 1) := by decide +kernel
theorem dX10_join_53 : decode cX10_join 53 = .ok (.iload_n 1, 1) := by decide +kernel
theorem dX10_join_54 : decode cX10_join 54 = .ok (.iload_n 2, 1) := by decide +kernel
theorem dX10_join_55 : decode cX10_join 55 = .ok (.invokestatic 251, 3) := by decide +kernel
theorem dX10_join_58 : decode cX10_join 58 = .ok (.istore_n 3, 1) := by decide +kernel
theorem dX10_join_59 : decode cX10_join 59 = .ok (.iload_n 1, 1) := by decide +kernel
theorem dX10_join_60 : decode cX10_join 60 = .ok (.iload_n 2, 1) := by decide +kernel
theorem dX10_join_61 : decode cX10_join 61 = .ok (.invokestatic 256, 3) := by decide +kernel
theorem dX10_join_64 : decode cX10_join 64 = .ok (.istore 4, 2) := by decide +kernel
theorem dX10_join_66 : decode cX10_join 66 = .ok (.aload_n 0, 1) := by decide +kernel
theorem dX10_join_67 : decode cX10_join 67 = .ok (.getfield 28, 3) := by decide +kernel
theorem dX10_join_70 : decode cX10_join 70 = .ok (.iload_n 3, 1) := by decide +kernel
theorem dX10_join_71 : decode cX10_join 71 = .ok (.iload 4, 2) := by decide +kernel
theorem dX10_join_73 : decode cX10_join 73 = .ok (.invokevirtual 259, 3) := by decide +kernel
theorem dX10_join_76 : decode cX10_join 76 = .ok (.istore 5, 2) := by decide +kernel
theorem dX10_join_78 : decode cX10_join 78 = .ok (.aload_n 0, 1) := by decide +kernel
theorem dX10_join_79 : decode cX10_join 79 = .ok (.getfield 28, 3) := by decide +kernel
theorem dX10_join_82 : decode cX10_join 82 = .ok (.iload 4, 2) := by decide +kernel
theorem dX10_join_84 : decode cX10_join 84 = .ok (.iload_n 3, 1) := by decide +kernel
theorem dX10_join_85 : decode cX10_join 85 = .ok (.invokevirtual 259, 3) := by decide +kernel
theorem dX10_join_88 : decode cX10_join 88 = .ok (.istore 6, 2) := by decide +kernel
theorem dX10_join_90 : decode cX10_join 90 = .ok (.aload_n 0, 1) := by decide +kernel
theorem dX10_join_91 : decode cX10_join 91 = .ok (.getfield 28, 3) := by decide +kernel
theorem dX10_join_94 : decode cX10_join 94 = .ok (.iload_n 3, 1) := by decide +kernel
theorem dX10_join_95 : decode cX10_join 95 = .ok (.iload 5, 2) := by decide +kernel
theorem dX10_join_97 : decode cX10_join 97 = .ok (.iload 4, 2) := by decide +kernel
theorem dX10_join_99 : decode cX10_join 99 = .ok (.iload 6, 2) := by decide +kernel
theorem dX10_join_101 : decode cX10_join 101 = .ok (.invokevirtual 262, 3) := by decide +kernel
theorem dX10_join_104 : decode cX10_join 104 = .ok (.istore 7, 2) := by decide +kernel
theorem dX10_join_106 : decode cX10_join 106 = .ok (.iload 7, 2) := by decide +kernel
theorem dX10_join_108 : decode cX10_join 108 = .ok (.ifCond .ge 6, 3) := by decide +kernel
theorem dX10_join_111 : decode cX10_join 111 = .ok (.bipush (-3), 2) := by decide +kernel
theorem dX10_join_113 : decode cX10_join 113 = .ok (.ireturn, 1) := by decide +kernel
theorem dX10_join_114 : decode cX10_join 114 = .ok (.aload_n 0, 1) := by decide +kernel
theorem dX10_join_115 : decode cX10_join 115 = .ok (.iload_n 3, 1) := by decide +kernel
theorem dX10_join_116 : decode cX10_join 116 = .ok (.iconst (-1), 1) := by decide +kernel
theorem dX10_join_117 : decode cX10_join 117 = .ok (.invokevirtual 243, 3) := by decide +kernel
theorem dX10_join_120 : decode cX10_join 120 = .ok (.aload_n 0, 1) := by decide +kernel
theorem dX10_join_121 : decode cX10_join 121 = .ok (.iload 4, 2) := by decide +kernel
theorem dX10_join_123 : decode cX10_join 123 = .ok (.iconst (-1), 1) := by decide +kernel
theorem dX10_join_124 : decode cX10_join 124 = .ok (.invokevirtual 243, 3) := by decide +kernel
theorem dX10_join_127 : decode cX10_join 127 = .ok (.aload_n 0, 1) := by decide +kernel
theorem dX10_join_128 : decode cX10_join 128 = .ok (.getfield 28, 3) := by decide +kernel
theorem dX10_join_131 : decode cX10_join 131 = .ok (.iload 4, 2) := by decide +kernel
theorem dX10_join_133 : decode cX10_join 133 = .ok (.iload 6, 2) := by decide +kernel
theorem dX10_join_135 : decode cX10_join 135 = .ok (.iload_n 3, 1) := by decide +kernel
theorem dX10_join_136 : decode cX10_join 136 = .ok (.iload 7, 2) := by decide +kernel
theorem dX10_join_138 : decode cX10_join 138 = .ok (.invokevirtual 266, 3) := by decide +kernel
theorem dX10_join_141 : decode cX10_join 141 = .ok (.aload_n 0, 1) := by decide +kernel
theorem dX10_join_142 : decode cX10_join 142 = .ok (.getfield 28, 3) := by decide +kernel
theorem dX10_join_145 : decode cX10_join 145 = .ok (.iload_n 3, 1) := by decide +kernel
theorem dX10_join_146 : decode cX10_join 146 = .ok (.invokevirtual 269, 3) := by decide +kernel
theorem dX10_join_149 : decode cX10_join 149 = .ok (.aload_n 0, 1) := by decide +kernel
theorem dX10_join_150 : decode cX10_join 150 = .ok (.iload_n 3, 1) := by decide +kernel
theorem dX10_join_151 : decode cX10_join 151 = .ok (.iconst 1, 1) := by decide +kernel
theorem dX10_join_152 : decode cX10_join 152 = .ok (.invokevirtual 243, 3) := by decide +kernel
theorem dX10_join_155 : decode cX10_join 155 = .ok (.aload_n 0, 1) := by decide +kernel
theorem dX10_join_156 : decode cX10_join 156 = .ok (.getfield 28, 3) := by decide +kernel
theorem dX10_join_159 : decode cX10_join 159 = .ok (.iload 4, 2) := by decide +kernel
theorem dX10_join_161 : decode cX10_join 161 = .ok (.invokevirtual 272, 3) := by decide +kernel
theorem dX10_join_164 : decode cX10_join 164 = .ok (.aload_n 0, 1) := by decide +kernel
theorem dX10_join_165 : decode cX10_join 165 = .ok (.invokevirtual 114, 3) := by decide +kernel
theorem dX10_join_168 : decode cX10_join 168 = .ok (.iload_n 3, 1) := by decide +kernel
theorem dX10_join_169 : decode cX10_join 169 = .ok (.ireturn, 1) := by decide +kernel
set_option maxRecDepth 20000 in
theorem ggX10_turn_X1_has : GoodIn wsX10_turn wsX1_has := goodIn_r _ [13, 14, 41, 42, 43, 44, 45, 46] (by decide +kernel) (by decide +kernel)
set_option maxRecDepth 20000 in
theorem gX10_turn_X1_has : GoodIn wsX10_turn (wsV RX10 141 RX1 yX1_has wsX1_has) := goodIn_app (goodIn_of _ (by decide +kernel)) ggX10_turn_X1_has
set_option maxRecDepth 20000 in
theorem ggX10_turn_X10_forgetPicks : GoodIn wsX10_turn wsX10_forgetPicks := goodIn_r _ [19, 20, 21, 22, 23, 24, 25, 26, 27, 28, 29, 30, 31, 32, 33, 34, 35, 36, 37, 38, 39, 40, 47, 48, 49, 50] (by decide +kernel) (by decide +kernel)
set_option maxRecDepth 20000 in
theorem gX10_turn_X10_forgetPicks : GoodIn wsX10_turn (wsV RX10 114 RX10 yX10_forgetPicks wsX10_forgetPicks) := goodIn_app (goodIn_of _ (by decide +kernel)) ggX10_turn_X10_forgetPicks
theorem dX10_turn_0 : decode cX10_turn 0 = .ok (.aload_n 0, 1) := by decide +kernel
theorem dX10_turn_1 : decode cX10_turn 1 = .ok (.getfield 28, 3) := by decide +kernel
theorem dX10_turn_4 : decode cX10_turn 4 = .ok (.iload_n 1, 1) := by decide +kernel
theorem dX10_turn_5 : decode cX10_turn 5 = .ok (.invokevirtual 141, 3) := by decide +kernel
theorem dX10_turn_8 : decode cX10_turn 8 = .ok (.ifCond .ne 5, 3) := by decide +kernel
theorem dX10_turn_11 : decode cX10_turn 11 = .ok (.iconst (-1), 1) := by decide +kernel
theorem dX10_turn_12 : decode cX10_turn 12 = .ok (.ireturn, 1) := by decide +kernel
theorem dX10_turn_13 : decode cX10_turn 13 = .ok (.iload_n 2, 1) := by decide +kernel
theorem dX10_turn_14 : decode cX10_turn 14 = .ok (.ifCond .lt 9, 3) := by decide +kernel
theorem dX10_turn_17 : decode cX10_turn 17 = .ok (.iload_n 2, 1) := by decide +kernel
theorem dX10_turn_18 : decode cX10_turn 18 = .ok (.bipush 48, 2) := by decide +kernel
theorem dX10_turn_20 : decode cX10_turn 20 = .ok (.if_icmp .lt 6, 3) := by decide +kernel
theorem dX10_turn_23 : decode cX10_turn 23 = .ok (.bipush (-2), 2) := by decide +kernel
theorem dX10_turn_25 : decode cX10_turn 25 = .ok (.ireturn, 1) := by decide +kernel
theorem dX10_turn_26 : decode cX10_turn 26 = .ok (.iload_n 1, 1) := by decide +kernel
theorem dX10_turn_27 : decode cX10_turn 27 = .ok (.bipush 12, 2) := by decide +kernel
theorem dX10_turn_29 : decode cX10_turn 29 = .ok (.imul, 1) := by decide +kernel
theorem dX10_turn_30 : decode cX10_turn 30 = .ok (.istore_n 3, 1) := by decide +kernel
theorem dX10_turn_31 : decode cX10_turn 31 = .ok (.iconst 0, 1) := by decide +kernel
theorem dX10_turn_32 : decode cX10_turn 32 = .ok (.istore 4, 2) := by decide +kernel
theorem dX10_turn_34 : decode cX10_turn 34 = .ok (.iconst 0, 1) := by decide +kernel
theorem dX10_turn_35 : decode cX10_turn 35 = .ok (.istore 5, 2) := by decide +kernel
theorem dX10_turn_37 : decode cX10_turn 37 = .ok (.iload 5, 2) := by decide +kernel
theorem dX10_turn_39 : decode cX10_turn 39 = .ok (.bipush 12, 2) := by decide +kernel
theorem dX10_turn_41 : decode cX10_turn 41 = .ok (.if_icmp .ge 103, 3) := by decide +kernel
theorem dX10_turn_44 : decode cX10_turn 44 = .ok (.iload 5, 2) := by decide +kernel
theorem dX10_turn_46 : decode cX10_turn 46 = .ok (.iconst 3, 1) := by decide +kernel
theorem dX10_turn_47 : decode cX10_turn 47 = .ok (.irem, 1) := by decide +kernel
theorem dX10_turn_48 : decode cX10_turn 48 = .ok (.istore 6, 2) := by decide +kernel
theorem dX10_turn_50 : decode cX10_turn 50 = .ok (.aload_n 0, 1) := by decide +kernel
theorem dX10_turn_51 : decode cX10_turn 51 = .ok (.getfield 28, 3) := by decide +kernel
theorem dX10_turn_54 : decode cX10_turn 54 = .ok (.getfield 158, 3) := by decide +kernel
theorem dX10_turn_57 : decode cX10_turn 57 = .ok (.iload_n 3, 1) := by decide +kernel
theorem dX10_turn_58 : decode cX10_turn 58 = .ok (.iload 5, 2) := by decide +kernel
theorem dX10_turn_60 : decode cX10_turn 60 = .ok (.iadd, 1) := by decide +kernel
theorem dX10_turn_61 : decode cX10_turn 61 = .ok (.iload 6, 2) := by decide +kernel
theorem dX10_turn_63 : decode cX10_turn 63 = .ok (.isub, 1) := by decide +kernel
theorem dX10_turn_64 : decode cX10_turn 64 = .ok (.getstatic 275, 3) := by decide +kernel
theorem dX10_turn_67 : decode cX10_turn 67 = .ok (.iload_n 2, 1) := by decide +kernel
theorem dX10_turn_68 : decode cX10_turn 68 = .ok (.bipush 8, 2) := by decide +kernel
theorem dX10_turn_70 : decode cX10_turn 70 = .ok (.idiv, 1) := by decide +kernel
theorem dX10_turn_71 : decode cX10_turn 71 = .ok (.iconst 3, 1) := by decide +kernel
theorem dX10_turn_72 : decode cX10_turn 72 = .ok (.imul, 1) := by decide +kernel
theorem dX10_turn_73 : decode cX10_turn 73 = .ok (.iload 6, 2) := by decide +kernel
theorem dX10_turn_75 : decode cX10_turn 75 = .ok (.iadd, 1) := by decide +kernel
theorem dX10_turn_76 : decode cX10_turn 76 = .ok (.iaload, 1) := by decide +kernel
theorem dX10_turn_77 : decode cX10_turn 77 = .ok (.iadd, 1) := by decide +kernel
theorem dX10_turn_78 : decode cX10_turn 78 = .ok (.iaload, 1) := by decide +kernel
theorem dX10_turn_79 : decode cX10_turn 79 = .ok (.istore 7, 2) := by decide +kernel
theorem dX10_turn_81 : decode cX10_turn 81 = .ok (.aload_n 0, 1) := by decide +kernel
theorem dX10_turn_82 : decode cX10_turn 82 = .ok (.getfield 88, 3) := by decide +kernel
theorem dX10_turn_85 : decode cX10_turn 85 = .ok (.iload 5, 2) := by decide +kernel
theorem dX10_turn_87 : decode cX10_turn 87 = .ok (.iload_n 2, 1) := by decide +kernel
theorem dX10_turn_88 : decode cX10_turn 88 = .ok (.iload 6, 2) := by decide +kernel
theorem dX10_turn_90 : decode cX10_turn 90 = .ok (.ishr, 1) := by decide +kernel
theorem dX10_turn_91 : decode cX10_turn 91 = .ok (.iconst 1, 1) := by decide +kernel
theorem dX10_turn_92 : decode cX10_turn 92 = .ok (.iand, 1) := by decide +kernel
theorem dX10_turn_93 : decode cX10_turn 93 = .ok (.iconst 1, 1) := by decide +kernel
theorem dX10_turn_94 : decode cX10_turn 94 = .ok (.if_icmp .ne 9, 3) := by decide +kernel
theorem dX10_turn_97 : decode cX10_turn 97 = .ok (.iload 7, 2) := by decide +kernel
theorem dX10_turn_99 : decode cX10_turn 99 = .ok (.ineg, 1) := by decide +kernel
theorem dX10_turn_100 : decode cX10_turn 100 = .ok (.goto 5, 3) := by decide +kernel
theorem dX10_turn_103 : decode cX10_turn 103 = .ok (.iload 7, 2) := by decide +kernel
theorem dX10_turn_105 : decode cX10_turn 105 = .ok (.iastore, 1) := by decide +kernel
theorem dX10_turn_106 : decode cX10_turn 106 = .ok (.iload 4, 2) := by decide +kernel
theorem dX10_turn_108 : decode cX10_turn 108 = .ok (.aload_n 0, 1) := by decide +kernel
theorem dX10_turn_109 : decode cX10_turn 109 = .ok (.getfield 88, 3) := by decide +kernel
theorem dX10_turn_112 : decode cX10_turn 112 = .ok (.iload 5, 2) := by decide +kernel
theorem dX10_turn_114 : decode cX10_turn 114 = .ok (.iaload, 1) := by decide +kernel
theorem dX10_turn_115 : decode cX10_turn 115 = .ok (.aload_n 0, 1) := by decide +kernel
theorem dX10_turn_116 : decode cX10_turn 116 = .ok (.getfield 28, 3) := by decide +kernel
theorem dX10_turn_119 : decode cX10_turn 119 = .ok (.getfield 158, 3) := by decide +kernel
theorem dX10_turn_122 : decode cX10_turn 122 = .ok (.iload_n 3, 1) := by decide +kernel
theorem dX10_turn_123 : decode cX10_turn 123 = .ok (.iload 5, 2) := by decide +kernel
theorem dX10_turn_125 : decode cX10_turn 125 = .ok (.iadd, 1) := by decide +kernel
theorem dX10_turn_126 : decode cX10_turn 126 = .ok (.iaload, 1) := by decide +kernel
theorem dX10_turn_127 : decode cX10_turn 127 = .ok (.if_icmp .ne 7, 3) := by decide +kernel
theorem dX10_turn_130 : decode cX10_turn 130 = .ok (.iconst 0, 1) := by decide +kernel
theorem dX10_turn_131 : decode cX10_turn 131 = .ok (.goto 4, 3) := by decide +kernel
theorem dX10_turn_134 : decode cX10_turn 134 = .ok (.iconst 1, 1) := by decide +kernel
theorem dX10_turn_135 : decode cX10_turn 135 = .ok (.iadd, 1) := by decide +kernel
theorem dX10_turn_136 : decode cX10_turn 136 = .ok (.istore 4, 2) := by decide +kernel
theorem dX10_turn_138 : decode cX10_turn 138 = .ok (.iinc 5 1, 3) := by decide +kernel
theorem dX10_turn_141 : decode cX10_turn 141 = .ok (.goto (-104), 3) := by decide +kernel
theorem dX10_turn_144 : decode cX10_turn 144 = .ok (.iload 4, 2) := by decide +kernel
theorem dX10_turn_146 : decode cX10_turn 146 = .ok (.ifCond .ne 6, 3) := by decide +kernel
theorem dX10_turn_149 : decode cX10_turn 149 = .ok (.bipush (-3), 2) := by decide +kernel
theorem dX10_turn_151 : decode cX10_turn 151 = .ok (.ireturn, 1) := by decide +kernel
theorem dX10_turn_152 : decode cX10_turn 152 = .ok (.aload_n 0, 1) := by decide +kernel
theorem dX10_turn_153 : decode cX10_turn 153 = .ok (.getfield 88, 3) := by decide +kernel
theorem dX10_turn_156 : decode cX10_turn 156 = .ok (.iconst 0, 1) := by decide +kernel
theorem dX10_turn_157 : decode cX10_turn 157 = .ok (.aload_n 0, 1) := by decide +kernel
theorem dX10_turn_158 : decode cX10_turn 158 = .ok (.getfield 28, 3) := by decide +kernel
theorem dX10_turn_161 : decode cX10_turn 161 = .ok (.getfield 158, 3) := by decide +kernel
theorem dX10_turn_164 : decode cX10_turn 164 = .ok (.iload_n 3, 1) := by decide +kernel
theorem dX10_turn_165 : decode cX10_turn 165 = .ok (.bipush 12, 2) := by decide +kernel
theorem dX10_turn_167 : decode cX10_turn 167 = .ok (.invokestatic 278, 3) := by decide +kernel
theorem dX10_turn_170 : decode cX10_turn 170 = .ok (.aload_n 0, 1) := by decide +kernel
theorem dX10_turn_171 : decode cX10_turn 171 = .ok (.invokevirtual 114, 3) := by decide +kernel
theorem dX10_turn_174 : decode cX10_turn 174 = .ok (.iload 4, 2) := by decide +kernel
theorem dX10_turn_176 : decode cX10_turn 176 = .ok (.ireturn, 1) := by decide +kernel
set_option maxRecDepth 20000 in
theorem ggX10_move_X1_has : GoodIn wsX10_move wsX1_has := goodIn_r _ [7, 8, 49, 50, 51, 52, 53, 54] (by decide +kernel) (by decide +kernel)
set_option maxRecDepth 20000 in
theorem gX10_move_X1_has : GoodIn wsX10_move (wsV RX10 141 RX1 yX1_has wsX1_has) := goodIn_app (goodIn_of _ (by decide +kernel)) ggX10_move_X1_has
set_option maxRecDepth 20000 in
theorem ggX10_move_X10_isMove : GoodIn wsX10_move wsX10_isMove := goodIn_r _ [12] (by decide +kernel) (by decide +kernel)
set_option maxRecDepth 20000 in
theorem gX10_move_X10_isMove : GoodIn wsX10_move (va_wsS RX10 284 yX10_isMove wsX10_isMove) := goodIn_app (goodIn_of _ (by decide +kernel)) ggX10_move_X10_isMove
set_option maxRecDepth 20000 in
theorem ggX10_move_X1_staysNear : GoodIn wsX10_move wsX1_staysNear := goodIn_r _ [16, 17, 18, 11, 19, 49, 50, 51, 52, 53, 54] (by decide +kernel) (by decide +kernel)
set_option maxRecDepth 20000 in
theorem gX10_move_X1_staysNear : GoodIn wsX10_move (wsV RX10 287 RX1 yX1_staysNear wsX1_staysNear) := goodIn_app (goodIn_of _ (by decide +kernel)) ggX10_move_X1_staysNear
set_option maxRecDepth 20000 in
theorem ggX10_move_X1_shift : GoodIn wsX10_move wsX1_shift := goodIn_r _ [23, 17, 49, 50, 51, 52, 53, 54] (by decide +kernel) (by decide +kernel)
set_option maxRecDepth 20000 in
theorem gX10_move_X1_shift : GoodIn wsX10_move (wsV RX10 291 RX1 yX1_shift wsX1_shift) := goodIn_app (goodIn_of _ (by decide +kernel)) ggX10_move_X1_shift
set_option maxRecDepth 20000 in
theorem ggX10_move_X10_forgetPicks : GoodIn wsX10_move wsX10_forgetPicks := goodIn_r _ [27, 28, 29, 30, 31, 32, 33, 34, 35, 36, 37, 38, 39, 40, 41, 42, 43, 44, 45, 46, 47, 48, 55, 56, 57, 58] (by decide +kernel) (by decide +kernel)
set_option maxRecDepth 20000 in
theorem gX10_move_X10_forgetPicks : GoodIn wsX10_move (wsV RX10 114 RX10 yX10_forgetPicks wsX10_forgetPicks) := goodIn_app (goodIn_of _ (by decide +kernel)) ggX10_move_X10_forgetPicks
theorem dX10_move_0 : decode cX10_move 0 = .ok (.aload_n 0, 1) := by decide +kernel
theorem dX10_move_1 : decode cX10_move 1 = .ok (.getfield 28, 3) := by decide +kernel
theorem dX10_move_4 : decode cX10_move 4 = .ok (.iload_n 1, 1) := by decide +kernel
theorem dX10_move_5 : decode cX10_move 5 = .ok (.invokevirtual 141, 3) := by decide +kernel
theorem dX10_move_8 : decode cX10_move 8 = .ok (.ifCond .ne 5, 3) := by decide +kernel
theorem dX10_move_11 : decode cX10_move 11 = .ok (.iconst (-1), 1) := by decide +kernel
theorem dX10_move_12 : decode cX10_move 12 = .ok (.ireturn, 1) := by decide +kernel
theorem dX10_move_13 : decode cX10_move 13 = .ok (.iload_n 2, 1) := by decide +kernel
theorem dX10_move_14 : decode cX10_move 14 = .ok (.invokestatic 284, 3) := by decide +kernel
theorem dX10_move_17 : decode cX10_move 17 = .ok (.ifCond .eq 33, 3) := by decide +kernel
theorem dX10_move_20 : decode cX10_move 20 = .ok (.iload_n 3, 1) := by decide +kernel
theorem dX10_move_21 : decode cX10_move 21 = .ok (.invokestatic 284, 3) := by decide +kernel
theorem dX10_move_24 : decode cX10_move 24 = .ok (.ifCond .eq 26, 3) := by decide +kernel
theorem dX10_move_27 : decode cX10_move 27 = .ok (.iload 4, 2) := by decide +kernel
theorem dX10_move_29 : decode cX10_move 29 = .ok (.invokestatic 284, 3) := by decide +kernel
theorem dX10_move_32 : decode cX10_move 32 = .ok (.ifCond .eq 18, 3) := by decide +kernel
theorem dX10_move_35 : decode cX10_move 35 = .ok (.aload_n 0, 1) := by decide +kernel
theorem dX10_move_36 : decode cX10_move 36 = .ok (.getfield 28, 3) := by decide +kernel
theorem dX10_move_39 : decode cX10_move 39 = .ok (.iload_n 1, 1) := by decide +kernel
theorem dX10_move_40 : decode cX10_move 40 = .ok (.iload_n 2, 1) := by decide +kernel
theorem dX10_move_41 : decode cX10_move 41 = .ok (.iload_n 3, 1) := by decide +kernel
theorem dX10_move_42 : decode cX10_move 42 = .ok (.iload 4, 2) := by decide +kernel
theorem dX10_move_44 : decode cX10_move 44 = .ok (.invokevirtual 287, 3) := by decide +kernel
theorem dX10_move_47 : decode cX10_move 47 = .ok (.ifCond .ne 6, 3) := by decide +kernel
theorem dX10_move_50 : decode cX10_move 50 = .ok (.bipush (-2), 2) := by decide +kernel
theorem dX10_move_52 : decode cX10_move 52 = .ok (.ireturn, 1) := by decide +kernel
theorem dX10_move_53 : decode cX10_move 53 = .ok (.iload_n 2, 1) := by decide +kernel
theorem dX10_move_54 : decode cX10_move 54 = .ok (.ifCond .ne 15, 3) := by decide +kernel
theorem dX10_move_57 : decode cX10_move 57 = .ok (.iload_n 3, 1) := by decide +kernel
theorem dX10_move_58 : decode cX10_move 58 = .ok (.ifCond .ne 11, 3) := by decide +kernel
theorem dX10_move_61 : decode cX10_move 61 = .ok (.iload 4, 2) := by decide +kernel
theorem dX10_move_63 : decode cX10_move 63 = .ok (.ifCond .ne 6, 3) := by decide +kernel
theorem dX10_move_66 : decode cX10_move 66 = .ok (.bipush (-3), 2) := by decide +kernel
theorem dX10_move_68 : decode cX10_move 68 = .ok (.ireturn, 1) := by decide +kernel
theorem dX10_move_69 : decode cX10_move 69 = .ok (.aload_n 0, 1) := by decide +kernel
theorem dX10_move_70 : decode cX10_move 70 = .ok (.getfield 28, 3) := by decide +kernel
theorem dX10_move_73 : decode cX10_move 73 = .ok (.iload_n 1, 1) := by decide +kernel
theorem dX10_move_74 : decode cX10_move 74 = .ok (.iload_n 2, 1) := by decide +kernel
theorem dX10_move_75 : decode cX10_move 75 = .ok (.iload_n 3, 1) := by decide +kernel
theorem dX10_move_76 : decode cX10_move 76 = .ok (.iload 4, 2) := by decide +kernel
theorem dX10_move_78 : decode cX10_move 78 = .ok (.invokevirtual 291, 3) := by decide +kernel
theorem dX10_move_81 : decode cX10_move 81 = .ok (.aload_n 0, 1) := by decide +kernel
theorem dX10_move_82 : decode cX10_move 82 = .ok (.invokevirtual 114, 3) := by decide +kernel
theorem dX10_move_85 : decode cX10_move 85 = .ok (.aload_n 0, 1) := by decide +kernel
theorem dX10_move_86 : decode cX10_move 86 = .ok (.getfield 28, 3) := by decide +kernel
theorem dX10_move_89 : decode cX10_move 89 = .ok (.getfield 155, 3) := by decide +kernel
theorem dX10_move_92 : decode cX10_move 92 = .ok (.iload_n 1, 1) := by decide +kernel
theorem dX10_move_93 : decode cX10_move 93 = .ok (.iaload, 1) := by decide +kernel
theorem dX10_move_94 : decode cX10_move 94 = .ok (.ireturn, 1) := by decide +kernel
set_option maxRecDepth 20000 in
theorem ggX10_give_X1_has : GoodIn wsX10_give wsX1_has := goodIn_r _ [7, 8, 177, 178, 179, 180, 181, 182] (by decide +kernel) (by decide +kernel)
set_option maxRecDepth 20000 in
theorem gX10_give_X1_has : GoodIn wsX10_give (wsV RX10 141 RX1 yX1_has wsX1_has) := goodIn_app (goodIn_of _ (by decide +kernel)) ggX10_give_X1_has
set_option maxRecDepth 20000 in
theorem ggX10_give_X10_isSolid : GoodIn wsX10_give wsX10_isSolid := goodIn_r _ [12] (by decide +kernel) (by decide +kernel)
set_option maxRecDepth 20000 in
theorem gX10_give_X10_isSolid : GoodIn wsX10_give (va_wsS RX10 194 yX10_isSolid wsX10_isSolid) := goodIn_app (goodIn_of _ (by decide +kernel)) ggX10_give_X10_isSolid
set_option maxRecDepth 20000 in
theorem ggX10_give_X10_weigh : GoodIn wsX10_give wsX10_weigh := goodIn_r _ [16, 17, 1, 18, 19, 20, 21, 22, 2, 23, 24, 25, 26, 27, 28, 29, 30, 31, 32, 33, 34, 35, 36, 37, 38, 39, 40, 41, 42, 43, 44, 45, 46, 47, 48, 49, 50, 51, 52, 53, 54, 55, 56, 6, 57, 58, 11, 59, 60, 61, 62, 63, 64, 65, 66, 67, 68, 69, 70, 71, 72, 73, 74, 75, 76, 77, 78, 79, 80, 81, 82, 83, 84, 85, 86, 87, 88, 89, 90, 91, 92, 93, 94, 95, 96, 97, 98, 99, 100, 101, 102, 103, 104, 105, 106, 107, 108, 109, 110, 111, 112, 113, 114, 115, 116, 117, 118, 119, 120, 121, 122, 123, 124, 125, 126, 127, 128, 129, 130, 131, 132, 133, 134, 135, 136, 137, 138, 139, 140, 141, 142, 143, 144, 145, 146, 147, 148, 149, 150, 151, 152, 153, 164, 165, 166, 167, 168, 169, 170, 171, 172, 173, 174, 175, 176, 177, 178, 179, 180, 181, 182, 183, 184, 185, 186, 187, 188, 189, 190, 191, 192, 193, 194, 195, 196, 197, 198, 199] (by decide +kernel) (by decide +kernel)
set_option maxRecDepth 20000 in
theorem gX10_give_X10_weigh : GoodIn wsX10_give (wsV RX10 243 RX10 yX10_weigh wsX10_weigh) := goodIn_app (goodIn_of _ (by decide +kernel)) ggX10_give_X10_weigh
set_option maxRecDepth 20000 in
theorem ggX10_give_X10_forgetPicks : GoodIn wsX10_give wsX10_forgetPicks := goodIn_r _ [157, 158, 159, 160, 161, 162, 101, 163, 104, 164, 165, 166, 167, 168, 169, 170, 171, 172, 173, 174, 175, 176, 196, 197, 198, 199] (by decide +kernel) (by decide +kernel)
set_option maxRecDepth 20000 in
theorem gX10_give_X10_forgetPicks : GoodIn wsX10_give (wsV RX10 114 RX10 yX10_forgetPicks wsX10_forgetPicks) := goodIn_app (goodIn_of _ (by decide +kernel)) ggX10_give_X10_forgetPicks
theorem dX10_give_0 : decode cX10_give 0 = .ok (.aload_n 0, 1) := by decide +kernel
theorem dX10_give_1 : decode cX10_give 1 = .ok (.getfield 28, 3) := by decide +kernel
theorem dX10_give_4 : decode cX10_give 4 = .ok (.iload_n 1, 1) := by decide +kernel
theorem dX10_give_5 : decode cX10_give 5 = .ok (.invokevirtual 141, 3) := by decide +kernel
theorem dX10_give_8 : decode cX10_give 8 = .ok (.ifCond .eq 10, 3) := by decide +kernel
theorem dX10_give_11 : decode cX10_give 11 = .ok (.iload_n 2, 1) := by decide +kernel
theorem dX10_give_12 : decode cX10_give 12 = .ok (.invokestatic 194, 3) := by decide +kernel
theorem dX10_give_15 : decode cX10_give 15 = .ok (.ifCond .ne 5, 3) := by decide +kernel
theorem dX10_give_18 : decode cX10_give 18 = .ok (.iconst (-1), 1) := by decide +kernel
theorem dX10_give_19 : decode cX10_give 19 = .ok (.ireturn, 1) := by decide +kernel
theorem dX10_give_20 : decode cX10_give 20 = .ok (.aload_n 0, 1) := by decide +kernel
theorem dX10_give_21 : decode cX10_give 21 = .ok (.getfield 28, 3) := by decide +kernel
theorem dX10_give_24 : decode cX10_give 24 = .ok (.getfield 152, 3) := by decide +kernel
theorem dX10_give_27 : decode cX10_give 27 = .ok (.iload_n 1, 1) := by decide +kernel
theorem dX10_give_28 : decode cX10_give 28 = .ok (.iaload, 1) := by decide +kernel
theorem dX10_give_29 : decode cX10_give 29 = .ok (.istore_n 3, 1) := by decide +kernel
theorem dX10_give_30 : decode cX10_give 30 = .ok (.iload_n 3, 1) := by decide +kernel
theorem dX10_give_31 : decode cX10_give 31 = .ok (.iload_n 2, 1) := by decide +kernel
theorem dX10_give_32 : decode cX10_give 32 = .ok (.if_icmp .ne 6, 3) := by decide +kernel
theorem dX10_give_35 : decode cX10_give 35 = .ok (.bipush (-3), 2) := by decide +kernel
theorem dX10_give_37 : decode cX10_give 37 = .ok (.ireturn, 1) := by decide +kernel
theorem dX10_give_38 : decode cX10_give 38 = .ok (.aload_n 0, 1) := by decide +kernel
theorem dX10_give_39 : decode cX10_give 39 = .ok (.iload_n 1, 1) := by decide +kernel
theorem dX10_give_40 : decode cX10_give 40 = .ok (.iconst (-1), 1) := by decide +kernel
theorem dX10_give_41 : decode cX10_give 41 = .ok (.invokevirtual 243, 3) := by decide +kernel
theorem dX10_give_44 : decode cX10_give 44 = .ok (.aload_n 0, 1) := by decide +kernel
theorem dX10_give_45 : decode cX10_give 45 = .ok (.getfield 28, 3) := by decide +kernel
theorem dX10_give_48 : decode cX10_give 48 = .ok (.getfield 152, 3) := by decide +kernel
theorem dX10_give_51 : decode cX10_give 51 = .ok (.iload_n 1, 1) := by decide +kernel
theorem dX10_give_52 : decode cX10_give 52 = .ok (.iload_n 2, 1) := by decide +kernel
theorem dX10_give_53 : decode cX10_give 53 = .ok (.iastore, 1) := by decide +kernel
theorem dX10_give_54 : decode cX10_give 54 = .ok (.aload_n 0, 1) := by decide +kernel
theorem dX10_give_55 : decode cX10_give 55 = .ok (.iload_n 1, 1) := by decide +kernel
theorem dX10_give_56 : decode cX10_give 56 = .ok (.iconst 1, 1) := by decide +kernel
theorem dX10_give_57 : decode cX10_give 57 = .ok (.invokevirtual 243, 3) := by decide +kernel
theorem dX10_give_60 : decode cX10_give 60 = .ok (.aload_n 0, 1) := by decide +kernel
theorem dX10_give_61 : decode cX10_give 61 = .ok (.invokevirtual 114, 3) := by decide +kernel
theorem dX10_give_64 : decode cX10_give 64 = .ok (.iload_n 3, 1) := by decide +kernel
theorem dX10_give_65 : decode cX10_give 65 = .ok (.ireturn, 1) := by decide +kernel
set_option maxRecDepth 20000 in
theorem ggX10_drop_X1_has : GoodIn wsX10_drop wsX1_has := goodIn_r _ [7, 8, 183, 184, 185, 186, 187, 188] (by decide +kernel) (by decide +kernel)
set_option maxRecDepth 20000 in
theorem gX10_drop_X1_has : GoodIn wsX10_drop (wsV RX10 141 RX1 yX1_has wsX1_has) := goodIn_app (goodIn_of _ (by decide +kernel)) ggX10_drop_X1_has
set_option maxRecDepth 20000 in
theorem ggX10_drop_X10_weigh : GoodIn wsX10_drop wsX10_weigh := goodIn_r _ [13, 14, 1, 15, 16, 17, 18, 19, 20, 21, 22, 23, 24, 25, 26, 27, 28, 29, 30, 31, 32, 33, 34, 35, 36, 37, 38, 39, 40, 41, 42, 43, 44, 45, 46, 47, 48, 49, 50, 51, 52, 53, 54, 6, 55, 56, 12, 57, 58, 59, 60, 61, 62, 63, 64, 65, 66, 67, 68, 69, 70, 71, 72, 73, 74, 75, 76, 77, 78, 79, 80, 81, 82, 83, 84, 85, 86, 87, 88, 89, 90, 91, 92, 93, 94, 95, 96, 97, 98, 99, 100, 101, 102, 103, 104, 105, 106, 107, 108, 109, 110, 111, 112, 113, 114, 115, 116, 117, 118, 119, 120, 121, 122, 123, 124, 125, 126, 127, 128, 129, 130, 131, 132, 133, 134, 135, 136, 137, 138, 139, 140, 141, 142, 143, 144, 145, 146, 147, 148, 149, 150, 151, 170, 171, 172, 173, 174, 175, 176, 177, 178, 179, 180, 181, 182, 183, 184, 185, 186, 187, 188, 189, 190, 191, 192, 193, 194, 195, 196, 197, 198, 199, 200, 201, 202, 203, 204, 205] (by decide +kernel) (by decide +kernel)
set_option maxRecDepth 20000 in
theorem gX10_drop_X10_weigh : GoodIn wsX10_drop (wsV RX10 243 RX10 yX10_weigh wsX10_weigh) := goodIn_app (goodIn_of _ (by decide +kernel)) ggX10_drop_X10_weigh
set_option maxRecDepth 20000 in
theorem ggX10_drop_X1_remove : GoodIn wsX10_drop wsX1_remove := goodIn_r _ [155, 8, 156, 157, 130, 131, 132, 158, 159, 183, 184, 185, 186, 187, 188] (by decide +kernel) (by decide +kernel)
set_option maxRecDepth 20000 in
theorem gX10_drop_X1_remove : GoodIn wsX10_drop (wsV RX10 272 RX1 yX1_remove wsX1_remove) := goodIn_app (goodIn_of _ (by decide +kernel)) ggX10_drop_X1_remove
set_option maxRecDepth 20000 in
theorem ggX10_drop_X10_forgetPicks : GoodIn wsX10_drop wsX10_forgetPicks := goodIn_r _ [163, 164, 165, 166, 167, 168, 99, 169, 102, 170, 171, 172, 173, 174, 175, 176, 177, 178, 179, 180, 181, 182, 202, 203, 204, 205] (by decide +kernel) (by decide +kernel)
set_option maxRecDepth 20000 in
theorem gX10_drop_X10_forgetPicks : GoodIn wsX10_drop (wsV RX10 114 RX10 yX10_forgetPicks wsX10_forgetPicks) := goodIn_app (goodIn_of _ (by decide +kernel)) ggX10_drop_X10_forgetPicks
theorem dX10_drop_0 : decode cX10_drop 0 = .ok (.aload_n 0, 1) := by decide +kernel
theorem dX10_drop_1 : decode cX10_drop 1 = .ok (.getfield 28, 3) := by decide +kernel
theorem dX10_drop_4 : decode cX10_drop 4 = .ok (.iload_n 1, 1) := by decide +kernel
theorem dX10_drop_5 : decode cX10_drop 5 = .ok (.invokevirtual 141, 3) := by decide +kernel
theorem dX10_drop_8 : decode cX10_drop 8 = .ok (.ifCond .ne 5, 3) := by decide +kernel
theorem dX10_drop_11 : decode cX10_drop 11 = .ok (.iconst (-1), 1) := by decide +kernel
theorem dX10_drop_12 : decode cX10_drop 12 = .ok (.ireturn, 1) := by decide +kernel
theorem dX10_drop_13 : decode cX10_drop 13 = .ok (.aload_n 0, 1) := by decide +kernel
theorem dX10_drop_14 : decode cX10_drop 14 = .ok (.iload_n 1, 1) := by decide +kernel
theorem dX10_drop_15 : decode cX10_drop 15 = .ok (.iconst (-1), 1) := by decide +kernel
theorem dX10_drop_16 : decode cX10_drop 16 = .ok (.invokevirtual 243, 3) := by decide +kernel
theorem dX10_drop_19 : decode cX10_drop 19 = .ok (.aload_n 0, 1) := by decide +kernel
theorem dX10_drop_20 : decode cX10_drop 20 = .ok (.getfield 28, 3) := by decide +kernel
theorem dX10_drop_23 : decode cX10_drop 23 = .ok (.iload_n 1, 1) := by decide +kernel
theorem dX10_drop_24 : decode cX10_drop 24 = .ok (.invokevirtual 272, 3) := by decide +kernel
theorem dX10_drop_27 : decode cX10_drop 27 = .ok (.aload_n 0, 1) := by decide +kernel
theorem dX10_drop_28 : decode cX10_drop 28 = .ok (.invokevirtual 114, 3) := by decide +kernel
theorem dX10_drop_31 : decode cX10_drop 31 = .ok (.aload_n 0, 1) := by decide +kernel
theorem dX10_drop_32 : decode cX10_drop 32 = .ok (.getfield 28, 3) := by decide +kernel
theorem dX10_drop_35 : decode cX10_drop 35 = .ok (.getfield 108, 3) := by decide +kernel
theorem dX10_drop_38 : decode cX10_drop 38 = .ok (.ireturn, 1) := by decide +kernel
set_option maxRecDepth 20000 in
theorem ggX10_points_X1_has : GoodIn wsX10_points wsX1_has := goodIn_r _ [8, 9, 67, 68, 69, 70, 71, 72] (by decide +kernel) (by decide +kernel)
set_option maxRecDepth 20000 in
theorem gX10_points_X1_has : GoodIn wsX10_points (wsV RX10 141 RX1 yX1_has wsX1_has) := goodIn_app (goodIn_of _ (by decide +kernel)) ggX10_points_X1_has
set_option maxRecDepth 20000 in
theorem ggX10_points_X4_load : GoodIn wsX10_points wsX4_load := goodIn_r _ [14, 15, 16, 17, 18, 19, 20, 21, 22, 23, 24, 25, 26, 27, 28, 29, 7, 30, 31, 32, 33, 13, 34, 35, 36, 37, 38, 39, 73, 74, 75, 76, 77, 78, 79] (by decide +kernel) (by decide +kernel)
set_option maxRecDepth 20000 in
theorem gX10_points_X4_load : GoodIn wsX10_points (wsV RX10 235 RX4 yX4_load wsX4_load) := goodIn_app (goodIn_of _ (by decide +kernel)) ggX10_points_X4_load
set_option maxRecDepth 20000 in
theorem ggX10_points_X4_countPoints : GoodIn wsX10_points wsX4_countPoints := goodIn_r _ [43, 20, 21, 44, 45, 25, 26, 17, 27, 46, 47, 48, 13, 49, 35, 22, 23, 24, 50, 51, 52, 53, 73, 74, 75, 76, 77, 78, 79] (by decide +kernel) (by decide +kernel)
set_option maxRecDepth 20000 in
theorem gX10_points_X4_countPoints : GoodIn wsX10_points (wsV RX10 294 RX4 yX4_countPoints wsX4_countPoints) := goodIn_app (goodIn_of _ (by decide +kernel)) ggX10_points_X4_countPoints
theorem dX10_points_0 : decode cX10_points 0 = .ok (.aload_n 0, 1) := by decide +kernel
theorem dX10_points_1 : decode cX10_points 1 = .ok (.getfield 28, 3) := by decide +kernel
theorem dX10_points_4 : decode cX10_points 4 = .ok (.iload_n 1, 1) := by decide +kernel
theorem dX10_points_5 : decode cX10_points 5 = .ok (.invokevirtual 141, 3) := by decide +kernel
theorem dX10_points_8 : decode cX10_points 8 = .ok (.ifCond .ne 5, 3) := by decide +kernel
theorem dX10_points_11 : decode cX10_points 11 = .ok (.iconst (-1), 1) := by decide +kernel
theorem dX10_points_12 : decode cX10_points 12 = .ok (.ireturn, 1) := by decide +kernel
