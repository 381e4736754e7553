set_option maxRecDepth 20000 in
theorem ggX3_next_X3_minor : GoodIn wsX3_next wsX3_minor := goodIn_r _ [11, 2, 5, 3, 12, 13, 14, 15, 16, 17, 18, 7, 8, 9, 10, 40, 41, 42, 43, 44, 45, 46, 47, 48, 49, 50] (by decide +kernel) (by decide +kernel)
set_option maxRecDepth 20000 in
theorem gX3_next_X3_minor : GoodIn wsX3_next (wsV RX3 36 RX3 yX3_minor wsX3_minor) := goodIn_app (goodIn_of _ (by decide +kernel)) ggX3_next_X3_minor
set_option maxRecDepth 20000 in
theorem ggX3_next_X3_firstOpenRow : GoodIn wsX3_next wsX3_firstOpenRow := goodIn_r _ [22, 23, 2, 4, 3, 12, 13, 14, 15, 16, 17, 18, 47, 48, 49, 50, 40, 41, 42, 43, 44, 45, 46] (by decide +kernel) (by decide +kernel)
set_option maxRecDepth 20000 in
theorem gX3_next_X3_firstOpenRow : GoodIn wsX3_next (wsV RX3 40 RX3 yX3_firstOpenRow wsX3_firstOpenRow) := goodIn_app (goodIn_of _ (by decide +kernel)) ggX3_next_X3_firstOpenRow
set_option maxRecDepth 20000 in
theorem ggX3_next_X3_keepTimes : GoodIn wsX3_next wsX3_keepTimes := goodIn_r _ [27, 28, 2, 4, 29, 30, 31, 32, 33, 34, 35, 36, 37, 38, 39, 40, 41, 42, 43, 44, 45, 46] (by decide +kernel) (by decide +kernel)
set_option maxRecDepth 20000 in
theorem gX3_next_X3_keepTimes : GoodIn wsX3_next (wsV RX3 44 RX3 yX3_keepTimes wsX3_keepTimes) := goodIn_app (goodIn_of _ (by decide +kernel)) ggX3_next_X3_keepTimes
theorem dX3_next_0 : decode cX3_next 0 = .ok (.aload_n 0, 1) := by decide +kernel
theorem dX3_next_1 : decode cX3_next 1 = .ok (.getfield 29, 3) := by decide +kernel
theorem dX3_next_4 : decode cX3_next 4 = .ok (.bipush 6, 2) := by decide +kernel
theorem dX3_next_6 : decode cX3_next 6 = .ok (.if_icmp .ge 12, 3) := by decide +kernel
theorem dX3_next_9 : decode cX3_next 9 = .ok (.aload_n 0, 1) := by decide +kernel
theorem dX3_next_10 : decode cX3_next 10 = .ok (.getfield 25, 3) := by decide +kernel
theorem dX3_next_13 : decode cX3_next 13 = .ok (.bipush 6, 2) := by decide +kernel
theorem dX3_next_15 : decode cX3_next 15 = .ok (.if_icmp .lt 4, 3) := by decide +kernel
theorem dX3_next_19 : decode cX3_next 19 = .ok (.aload_n 0, 1) := by decide +kernel
theorem dX3_next_20 : decode cX3_next 20 = .ok (.getfield 9, 3) := by decide +kernel
theorem dX3_next_23 : decode cX3_next 23 = .ok (.aload_n 0, 1) := by decide +kernel
theorem dX3_next_24 : decode cX3_next 24 = .ok (.getfield 25, 3) := by decide +kernel
theorem dX3_next_27 : decode cX3_next 27 = .ok (.iload_n 2, 1) := by decide +kernel
theorem dX3_next_28 : decode cX3_next 28 = .ok (.iastore, 1) := by decide +kernel
theorem dX3_next_29 : decode cX3_next 29 = .ok (.iconst 0, 1) := by decide +kernel
theorem dX3_next_30 : decode cX3_next 30 = .ok (.istore_n 3, 1) := by decide +kernel
theorem dX3_next_31 : decode cX3_next 31 = .ok (.iload_n 3, 1) := by decide +kernel
theorem dX3_next_32 : decode cX3_next 32 = .ok (.aload_n 0, 1) := by decide +kernel
theorem dX3_next_33 : decode cX3_next 33 = .ok (.getfield 25, 3) := by decide +kernel
theorem dX3_next_36 : decode cX3_next 36 = .ok (.if_icmp .gt 38, 3) := by decide +kernel
theorem dX3_next_39 : decode cX3_next 39 = .ok (.aload_n 0, 1) := by decide +kernel
theorem dX3_next_40 : decode cX3_next 40 = .ok (.getfield 18, 3) := by decide +kernel
theorem dX3_next_43 : decode cX3_next 43 = .ok (.iload_n 3, 1) := by decide +kernel
theorem dX3_next_44 : decode cX3_next 44 = .ok (.aload_n 0, 1) := by decide +kernel
theorem dX3_next_45 : decode cX3_next 45 = .ok (.aload_n 1, 1) := by decide +kernel
theorem dX3_next_46 : decode cX3_next 46 = .ok (.iconst 0, 1) := by decide +kernel
theorem dX3_next_47 : decode cX3_next 47 = .ok (.iconst 1, 1) := by decide +kernel
theorem dX3_next_48 : decode cX3_next 48 = .ok (.iload_n 3, 1) := by decide +kernel
theorem dX3_next_49 : decode cX3_next 49 = .ok (.ishl, 1) := by decide +kernel
theorem dX3_next_50 : decode cX3_next 50 = .ok (.invokevirtual 36, 3) := by decide +kernel
theorem dX3_next_53 : decode cX3_next 53 = .ok (.iload_n 3, 1) := by decide +kernel
theorem dX3_next_54 : decode cX3_next 54 = .ok (.iconst 1, 1) := by decide +kernel
theorem dX3_next_55 : decode cX3_next 55 = .ok (.iand, 1) := by decide +kernel
theorem dX3_next_56 : decode cX3_next 56 = .ok (.iconst 1, 1) := by decide +kernel
theorem dX3_next_57 : decode cX3_next 57 = .ok (.if_icmp .ne 7, 3) := by decide +kernel
theorem dX3_next_64 : decode cX3_next 64 = .ok (.iconst 1, 1) := by decide +kernel
theorem dX3_next_65 : decode cX3_next 65 = .ok (.i2l, 1) := by decide +kernel
theorem dX3_next_66 : decode cX3_next 66 = .ok (.lmul, 1) := by decide +kernel
theorem dX3_next_67 : decode cX3_next 67 = .ok (.lastore, 1) := by decide +kernel
theorem dX3_next_68 : decode cX3_next 68 = .ok (.iinc 3 1, 3) := by decide +kernel
theorem dX3_next_71 : decode cX3_next 71 = .ok (.goto (-40), 3) := by decide +kernel
theorem dX3_next_74 : decode cX3_next 74 = .ok (.aload_n 0, 1) := by decide +kernel
theorem dX3_next_75 : decode cX3_next 75 = .ok (.aload_n 1, 1) := by decide +kernel
theorem dX3_next_76 : decode cX3_next 76 = .ok (.invokevirtual 40, 3) := by decide +kernel
theorem dX3_next_79 : decode cX3_next 79 = .ok (.istore_n 3, 1) := by decide +kernel
theorem dX3_next_80 : decode cX3_next 80 = .ok (.iload_n 3, 1) := by decide +kernel
theorem dX3_next_81 : decode cX3_next 81 = .ok (.ifCond .lt 26, 3) := by decide +kernel
theorem dX3_next_107 : decode cX3_next 107 = .ok (.aload_n 0, 1) := by decide +kernel
theorem dX3_next_108 : decode cX3_next 108 = .ok (.getfield 32, 3) := by decide +kernel
theorem dX3_next_111 : decode cX3_next 111 = .ok (.ifCond .ne 12, 3) := by decide +kernel
theorem dX3_next_114 : decode cX3_next 114 = .ok (.aload_n 0, 1) := by decide +kernel
theorem dX3_next_115 : decode cX3_next 115 = .ok (.iconst 1, 1) := by decide +kernel
theorem dX3_next_116 : decode cX3_next 116 = .ok (.putfield 32, 3) := by decide +kernel
theorem dX3_next_119 : decode cX3_next 119 = .ok (.aload_n 0, 1) := by decide +kernel
theorem dX3_next_120 : decode cX3_next 120 = .ok (.invokevirtual 44, 3) := by decide +kernel
theorem dX3_next_123 : decode cX3_next 123 = .ok (.aload_n 0, 1) := by decide +kernel
theorem dX3_next_124 : decode cX3_next 124 = .ok (.dup, 1) := by decide +kernel
theorem dX3_next_125 : decode cX3_next 125 = .ok (.getfield 29, 3) := by decide +kernel
theorem dX3_next_128 : decode cX3_next 128 = .ok (.iconst 1, 1) := by decide +kernel
theorem dX3_next_129 : decode cX3_next 129 = .ok (.iadd, 1) := by decide +kernel
theorem dX3_next_130 : decode cX3_next 130 = .ok (.putfield 29, 3) := by decide +kernel
theorem dX3_next_133 : decode cX3_next 133 = .ok (.return_, 1) := by decide +kernel
theorem dX3_minor_0 : decode cX3_minor 0 = .ok (.iload_n 2, 1) := by decide +kernel
theorem dX3_minor_1 : decode cX3_minor 1 = .ok (.aload_n 0, 1) := by decide +kernel
theorem dX3_minor_2 : decode cX3_minor 2 = .ok (.getfield 25, 3) := by decide +kernel
theorem dX3_minor_5 : decode cX3_minor 5 = .ok (.if_icmp .ge 9, 3) := by decide +kernel
theorem dX3_minor_14 : decode cX3_minor 14 = .ok (.lconst 1, 1) := by decide +kernel
theorem dX3_minor_15 : decode cX3_minor 15 = .ok (.lreturn, 1) := by decide +kernel
theorem dX3_firstOpenRow_0 : decode cX3_firstOpenRow 0 = .ok (.iconst 0, 1) := by decide +kernel
theorem dX3_firstOpenRow_1 : decode cX3_firstOpenRow 1 = .ok (.istore_n 2, 1) := by decide +kernel
theorem dX3_firstOpenRow_2 : decode cX3_firstOpenRow 2 = .ok (.iload_n 2, 1) := by decide +kernel
theorem dX3_firstOpenRow_3 : decode cX3_firstOpenRow 3 = .ok (.aload_n 1, 1) := by decide +kernel
theorem dX3_firstOpenRow_4 : decode cX3_firstOpenRow 4 = .ok (.getfield 53, 3) := by decide +kernel
theorem dX3_firstOpenRow_7 : decode cX3_firstOpenRow 7 = .ok (.if_icmp .ge 61, 3) := by decide +kernel
theorem dX3_firstOpenRow_68 : decode cX3_firstOpenRow 68 = .ok (.iconst (-1), 1) := by decide +kernel
theorem dX3_firstOpenRow_69 : decode cX3_firstOpenRow 69 = .ok (.ireturn, 1) := by decide +kernel
set_option maxRecDepth 20000 in
theorem ggX3_keepTimes_J7_fill_d0a16 : GoodIn wsX3_keepTimes wsJ7_fill_d0a16 := goodIn_r _ [7] (by decide +kernel) (by decide +kernel)
set_option maxRecDepth 20000 in
theorem gX3_keepTimes_J7_fill_d0a16 : GoodIn wsX3_keepTimes (va_wsS RX3 56 yJ7_fill_d0a16 wsJ7_fill_d0a16) := goodIn_app (goodIn_of _ (by decide +kernel)) ggX3_keepTimes_J7_fill_d0a16
set_option maxRecDepth 20000 in
theorem ggX3_keepTimes_X10_gcd : GoodIn wsX3_keepTimes wsX10_gcd := goodIn_r _ [10, 11, 12, 13, 14] (by decide +kernel) (by decide +kernel)
set_option maxRecDepth 20000 in
theorem gX3_keepTimes_X10_gcd_n62 : GoodIn wsX3_keepTimes (wsX10_gcd) := ggX3_keepTimes_X10_gcd
theorem dX3_keepTimes_0 : decode cX3_keepTimes 0 = .ok (.aload_n 0, 1) := by decide +kernel
theorem dX3_keepTimes_1 : decode cX3_keepTimes 1 = .ok (.getfield 22, 3) := by decide +kernel
theorem dX3_keepTimes_4 : decode cX3_keepTimes 4 = .ok (.lconst 0, 1) := by decide +kernel
theorem dX3_keepTimes_5 : decode cX3_keepTimes 5 = .ok (.invokestatic 56, 3) := by decide +kernel
theorem dX3_keepTimes_8 : decode cX3_keepTimes 8 = .ok (.lconst 0, 1) := by decide +kernel
theorem dX3_keepTimes_9 : decode cX3_keepTimes 9 = .ok (.lstore_n 1, 1) := by decide +kernel
theorem dX3_keepTimes_10 : decode cX3_keepTimes 10 = .ok (.iconst 0, 1) := by decide +kernel
theorem dX3_keepTimes_11 : decode cX3_keepTimes 11 = .ok (.istore_n 3, 1) := by decide +kernel
theorem dX3_keepTimes_12 : decode cX3_keepTimes 12 = .ok (.iload_n 3, 1) := by decide +kernel
theorem dX3_keepTimes_13 : decode cX3_keepTimes 13 = .ok (.aload_n 0, 1) := by decide +kernel
theorem dX3_keepTimes_14 : decode cX3_keepTimes 14 = .ok (.getfield 25, 3) := by decide +kernel
theorem dX3_keepTimes_17 : decode cX3_keepTimes 17 = .ok (.if_icmp .gt 20, 3) := by decide +kernel
theorem dX3_keepTimes_20 : decode cX3_keepTimes 20 = .ok (.lload_n 1, 1) := by decide +kernel
theorem dX3_keepTimes_21 : decode cX3_keepTimes 21 = .ok (.aload_n 0, 1) := by decide +kernel
theorem dX3_keepTimes_22 : decode cX3_keepTimes 22 = .ok (.getfield 18, 3) := by decide +kernel
theorem dX3_keepTimes_25 : decode cX3_keepTimes 25 = .ok (.iload_n 3, 1) := by decide +kernel
theorem dX3_keepTimes_26 : decode cX3_keepTimes 26 = .ok (.laload, 1) := by decide +kernel
theorem dX3_keepTimes_27 : decode cX3_keepTimes 27 = .ok (.invokestatic 62, 3) := by decide +kernel
theorem dX3_keepTimes_30 : decode cX3_keepTimes 30 = .ok (.lstore_n 1, 1) := by decide +kernel
theorem dX3_keepTimes_31 : decode cX3_keepTimes 31 = .ok (.iinc 3 1, 3) := by decide +kernel
theorem dX3_keepTimes_34 : decode cX3_keepTimes 34 = .ok (.goto (-22), 3) := by decide +kernel
theorem dX3_keepTimes_37 : decode cX3_keepTimes 37 = .ok (.aload_n 0, 1) := by decide +kernel
theorem dX3_keepTimes_38 : decode cX3_keepTimes 38 = .ok (.getfield 18, 3) := by decide +kernel
theorem dX3_keepTimes_41 : decode cX3_keepTimes 41 = .ok (.aload_n 0, 1) := by decide +kernel
theorem dX3_keepTimes_42 : decode cX3_keepTimes 42 = .ok (.getfield 25, 3) := by decide +kernel
theorem dX3_keepTimes_45 : decode cX3_keepTimes 45 = .ok (.laload, 1) := by decide +kernel
theorem dX3_keepTimes_46 : decode cX3_keepTimes 46 = .ok (.lconst 0, 1) := by decide +kernel
theorem dX3_keepTimes_47 : decode cX3_keepTimes 47 = .ok (.lcmp, 1) := by decide +kernel
theorem dX3_keepTimes_48 : decode cX3_keepTimes 48 = .ok (.ifCond .ge 8, 3) := by decide +kernel
theorem dX3_keepTimes_56 : decode cX3_keepTimes 56 = .ok (.lload_n 1, 1) := by decide +kernel
theorem dX3_keepTimes_57 : decode cX3_keepTimes 57 = .ok (.lstore_n 3, 1) := by decide +kernel
theorem dX3_keepTimes_58 : decode cX3_keepTimes 58 = .ok (.iconst 0, 1) := by decide +kernel
theorem dX3_keepTimes_59 : decode cX3_keepTimes 59 = .ok (.istore 5, 2) := by decide +kernel
theorem dX3_keepTimes_61 : decode cX3_keepTimes 61 = .ok (.iload 5, 2) := by decide +kernel
theorem dX3_keepTimes_63 : decode cX3_keepTimes 63 = .ok (.aload_n 0, 1) := by decide +kernel
theorem dX3_keepTimes_64 : decode cX3_keepTimes 64 = .ok (.getfield 25, 3) := by decide +kernel
theorem dX3_keepTimes_67 : decode cX3_keepTimes 67 = .ok (.if_icmp .gt 41, 3) := by decide +kernel
theorem dX3_keepTimes_70 : decode cX3_keepTimes 70 = .ok (.iload 5, 2) := by decide +kernel
theorem dX3_keepTimes_72 : decode cX3_keepTimes 72 = .ok (.aload_n 0, 1) := by decide +kernel
theorem dX3_keepTimes_73 : decode cX3_keepTimes 73 = .ok (.getfield 22, 3) := by decide +kernel
theorem dX3_keepTimes_76 : decode cX3_keepTimes 76 = .ok (.arraylength, 1) := by decide +kernel
theorem dX3_keepTimes_77 : decode cX3_keepTimes 77 = .ok (.if_icmp .ge 31, 3) := by decide +kernel
theorem dX3_keepTimes_80 : decode cX3_keepTimes 80 = .ok (.lload_n 3, 1) := by decide +kernel
theorem dX3_keepTimes_81 : decode cX3_keepTimes 81 = .ok (.lconst 0, 1) := by decide +kernel
theorem dX3_keepTimes_82 : decode cX3_keepTimes 82 = .ok (.lcmp, 1) := by decide +kernel
theorem dX3_keepTimes_83 : decode cX3_keepTimes 83 = .ok (.ifCond .eq 25, 3) := by decide +kernel
theorem dX3_keepTimes_86 : decode cX3_keepTimes 86 = .ok (.aload_n 0, 1) := by decide +kernel
theorem dX3_keepTimes_87 : decode cX3_keepTimes 87 = .ok (.getfield 22, 3) := by decide +kernel
theorem dX3_keepTimes_90 : decode cX3_keepTimes 90 = .ok (.iload 5, 2) := by decide +kernel
theorem dX3_keepTimes_92 : decode cX3_keepTimes 92 = .ok (.aload_n 0, 1) := by decide +kernel
theorem dX3_keepTimes_93 : decode cX3_keepTimes 93 = .ok (.getfield 18, 3) := by decide +kernel
theorem dX3_keepTimes_96 : decode cX3_keepTimes 96 = .ok (.iload 5, 2) := by decide +kernel
theorem dX3_keepTimes_98 : decode cX3_keepTimes 98 = .ok (.laload, 1) := by decide +kernel
theorem dX3_keepTimes_99 : decode cX3_keepTimes 99 = .ok (.lload_n 3, 1) := by decide +kernel
theorem dX3_keepTimes_100 : decode cX3_keepTimes 100 = .ok (.ldiv, 1) := by decide +kernel
theorem dX3_keepTimes_101 : decode cX3_keepTimes 101 = .ok (.lastore, 1) := by decide +kernel
theorem dX3_keepTimes_102 : decode cX3_keepTimes 102 = .ok (.iinc 5 1, 3) := by decide +kernel
theorem dX3_keepTimes_105 : decode cX3_keepTimes 105 = .ok (.goto (-44), 3) := by decide +kernel
theorem dX3_keepTimes_108 : decode cX3_keepTimes 108 = .ok (.return_, 1) := by decide +kernel
theorem dX10_gcd_0 : decode cX10_gcd 0 = .ok (.lload_n 0, 1) := by decide +kernel
theorem dX10_gcd_1 : decode cX10_gcd 1 = .ok (.invokestatic 339, 3) := by decide +kernel
theorem dX10_gcd_4 : decode cX10_gcd 4 = .ok (.lstore 4, 2) := by decide +kernel
theorem dX10_gcd_6 : decode cX10_gcd 6 = .ok (.lload_n 2, 1) := by decide +kernel
theorem dX10_gcd_7 : decode cX10_gcd 7 = .ok (.invokestatic 339, 3) := by decide +kernel
theorem dX10_gcd_10 : decode cX10_gcd 10 = .ok (.lstore 6, 2) := by decide +kernel
theorem dX10_gcd_12 : decode cX10_gcd 12 = .ok (.iconst 0, 1) := by decide +kernel
theorem dX10_gcd_13 : decode cX10_gcd 13 = .ok (.istore 8, 2) := by decide +kernel
theorem dX10_gcd_15 : decode cX10_gcd 15 = .ok (.iload 8, 2) := by decide +kernel
theorem dX10_gcd_17 : decode cX10_gcd 17 = .ok (.sipush 200, 3) := by decide +kernel
theorem dX10_gcd_20 : decode cX10_gcd 20 = .ok (.if_icmp .ge 31, 3) := by decide +kernel
theorem dX10_gcd_23 : decode cX10_gcd 23 = .ok (.lload 6, 2) := by decide +kernel
theorem dX10_gcd_25 : decode cX10_gcd 25 = .ok (.lconst 0, 1) := by decide +kernel
theorem dX10_gcd_26 : decode cX10_gcd 26 = .ok (.lcmp, 1) := by decide +kernel
theorem dX10_gcd_27 : decode cX10_gcd 27 = .ok (.ifCond .eq 24, 3) := by decide +kernel
theorem dX10_gcd_30 : decode cX10_gcd 30 = .ok (.lload 4, 2) := by decide +kernel
theorem dX10_gcd_32 : decode cX10_gcd 32 = .ok (.lload 6, 2) := by decide +kernel
theorem dX10_gcd_34 : decode cX10_gcd 34 = .ok (.lrem, 1) := by decide +kernel
theorem dX10_gcd_35 : decode cX10_gcd 35 = .ok (.lstore 9, 2) := by decide +kernel
theorem dX10_gcd_37 : decode cX10_gcd 37 = .ok (.lload 6, 2) := by decide +kernel
theorem dX10_gcd_39 : decode cX10_gcd 39 = .ok (.lstore 4, 2) := by decide +kernel
theorem dX10_gcd_41 : decode cX10_gcd 41 = .ok (.lload 9, 2) := by decide +kernel
theorem dX10_gcd_43 : decode cX10_gcd 43 = .ok (.lstore 6, 2) := by decide +kernel
theorem dX10_gcd_45 : decode cX10_gcd 45 = .ok (.iinc 8 1, 3) := by decide +kernel
theorem dX10_gcd_48 : decode cX10_gcd 48 = .ok (.goto (-33), 3) := by decide +kernel
theorem dX10_gcd_51 : decode cX10_gcd 51 = .ok (.lload 4, 2) := by decide +kernel
theorem dX10_gcd_53 : decode cX10_gcd 53 = .ok (.lreturn, 1) := by decide +kernel
theorem dJ7_fill_d0a16_0 : decode cJ7_fill_d0a16 0 = .ok (.iconst 0, 1) := by decide +kernel
theorem dJ7_fill_d0a16_1 : decode cJ7_fill_d0a16 1 = .ok (.istore_n 3, 1) := by decide +kernel
theorem dJ7_fill_d0a16_2 : decode cJ7_fill_d0a16 2 = .ok (.aload_n 0, 1) := by decide +kernel
theorem dJ7_fill_d0a16_3 : decode cJ7_fill_d0a16 3 = .ok (.arraylength, 1) := by decide +kernel
theorem dJ7_fill_d0a16_4 : decode cJ7_fill_d0a16 4 = .ok (.istore 4, 2) := by decide +kernel
theorem dJ7_fill_d0a16_6 : decode cJ7_fill_d0a16 6 = .ok (.iload_n 3, 1) := by decide +kernel
theorem dJ7_fill_d0a16_7 : decode cJ7_fill_d0a16 7 = .ok (.iload 4, 2) := by decide +kernel
theorem dJ7_fill_d0a16_9 : decode cJ7_fill_d0a16 9 = .ok (.if_icmp .ge 13, 3) := by decide +kernel
theorem dJ7_fill_d0a16_12 : decode cJ7_fill_d0a16 12 = .ok (.aload_n 0, 1) := by decide +kernel
theorem dJ7_fill_d0a16_13 : decode cJ7_fill_d0a16 13 = .ok (.iload_n 3, 1) := by decide +kernel
theorem dJ7_fill_d0a16_14 : decode cJ7_fill_d0a16 14 = .ok (.lload_n 1, 1) := by decide +kernel
theorem dJ7_fill_d0a16_15 : decode cJ7_fill_d0a16 15 = .ok (.lastore, 1) := by decide +kernel
theorem dJ7_fill_d0a16_16 : decode cJ7_fill_d0a16 16 = .ok (.iinc 3 1, 3) := by decide +kernel
theorem dJ7_fill_d0a16_19 : decode cJ7_fill_d0a16 19 = .ok (.goto (-13), 3) := by decide +kernel
theorem dJ7_fill_d0a16_22 : decode cJ7_fill_d0a16 22 = .ok (.return_, 1) := by decide +kernel
set_option maxHeartbeats 4000000 in
set_option maxRecDepth 100000 in
theorem c_X10_gcd (l : Launch) (dC : Nat → ClassId) (dI : Nat → Nat → Nat) (cB cI cJ : ClassId) (sz : Nat)  : Met l yX10_gcd wsX10_gcd ({ frames := 2, cells := 0, slots := 0, locals := 40 }) (va_Pc [.long 0, .long 1] (fun U => U.heap.size = sz ∧ va_P (dC, dI) vwCl [] U.heap ∧ va_K (dC, dI) vwCl [(cB, .byte), (cI, .int), (cJ, .long)] U ∧ va_D (fun _ => True) [])) (va_Ql (fun (r : Int64) (_ : Unit) => r = 1) (fun _ _ => True) (va_A [] sz)) 0 0 (va_A [] sz) := by
  refine Met.ofW (cc := cX10_gcd) (maxL := 11) (ret := (some .long)) (by decide) rfl ?_
  intro p e s m args below meth c s₁ B hml hv
  obtain ⟨rfl, hsz, hP, hK, hD0⟩ := hv
  have hx := B.exec
  have hb := B.bytes
  have hr := B.returns
  have hts := atoms_spec (ws := wsX10_gcd) B.pre
  have hown : s.vm.findClass RX10 = some m.cls := findClass_of_methodNamed B.named
  have hlocks := B.notSynchronized
  subst hsz
  have hD := hD0.self (sz := s.heap.size)
  generalize hAe : va_A [] s.heap.size = A at hD ⊢
  have hA : ∀ q : Nat, s.heap.size ≤ q → A q := fun q h => by rw [← hAe]; exact Or.inr h
  have hS : va_S A s.heap s.heap [] := va_S.rf
  have hP : va_P (dC, dI) vwCl [] s.heap := hP
  have hl := lv_entry ([.long 0, .long 1]) (n := 11) (Nat.le_of_ble_eq_true rfl)
  rw [lg_entry_eq]
  generalize (lg_sl ([.long 0, .long 1]) ++ List.replicate (11 - (lg_sl ([.long 0, .long 1])).length) Slot.unset).toArray = ls at hl ⊢
  have hl : lv_has ls 11 [(0, .long 0), (2, .long 1)] := hl
  refine lv_lload_n hx hb dX10_gcd_0 rfl (lv_at hl 0 rfl) ?_
  refine va_mabs_long hx hb (hml.trans hl.1.symm) hown (hts (.methodLink RX10 339 Lib.MathLoose.abs_long.x) (by decide +kernel)) (hts (.static Lib.MathLoose.abs_long.x) (by decide +kernel)) (hts (.initialized "java/lang/Math") (by decide +kernel)) (hts _ (List.mem_of_getElem? (i := 4) rfl)) (Nat.le_of_ble_eq_true rfl) (Nat.le_of_ble_eq_true rfl) (Nat.le_of_ble_eq_true rfl) (Nat.le_of_ble_eq_true rfl) dX10_gcd_1 ?_
  refine lv_topl (fun x_1 ex_1 => ?_)
  obtain rfl : x_1 = 0 := ex_1.trans (by first | rfl | decide)
  refine lv_lstore (lv' := [(4, .long 0), (0, .long 0), (2, .long 1)]) hx hb dX10_gcd_4 hl (by decide) rfl (fun ls hl => ?_)
  refine lv_lload_n hx hb dX10_gcd_6 rfl (lv_at hl 2 rfl) ?_
  refine va_mabs_long hx hb (hml.trans hl.1.symm) hown (hts (.methodLink RX10 339 Lib.MathLoose.abs_long.x) (by decide +kernel)) (hts (.static Lib.MathLoose.abs_long.x) (by decide +kernel)) (hts (.initialized "java/lang/Math") (by decide +kernel)) (hts _ (List.mem_of_getElem? (i := 4) rfl)) (Nat.le_of_ble_eq_true rfl) (Nat.le_of_ble_eq_true rfl) (Nat.le_of_ble_eq_true rfl) (Nat.le_of_ble_eq_true rfl) dX10_gcd_7 ?_
  refine lv_topl (fun x_2 ex_2 => ?_)
  obtain rfl : x_2 = 1 := ex_2.trans (by first | rfl | decide)
  refine lv_lstore (lv' := [(6, .long 1), (4, .long 0), (0, .long 0), (2, .long 1)]) hx hb dX10_gcd_10 hl (by decide) rfl (fun ls hl => ?_)
  refine lv_iconst (v := 0) hx hb dX10_gcd_12 (by decide) ?_
  refine lv_istore (lv' := [(8, .int 0), (6, .long 1), (4, .long 0), (0, .long 0), (2, .long 1)]) hx hb dX10_gcd_13 hl (by decide) rfl (fun ls hl => ?_)
  refine lv_iload hx hb dX10_gcd_15 (lv_at hl 0 rfl) ?_
  refine lv_sipush (v := 200) hx hb dX10_gcd_17 (by decide) ?_
  refine lv_icmp_ge (tgt := 51) hx hb dX10_gcd_20 (by decide) (fun c => absurd c (by decide)) (fun _ => ?_)
  refine lv_lload hx hb dX10_gcd_23 (lv_at hl 1 rfl) ?_
  refine lv_lconst (v := 0) hx hb dX10_gcd_25 (by decide) ?_
  refine W.lcmp hx hb dX10_gcd_26 ?_
  refine lv_topi (fun x_3 ex_3 => ?_)
  obtain rfl : x_3 = 1 := ex_3.trans (by first | rfl | decide)
  refine lv_if_eq (tgt := 51) hx hb dX10_gcd_27 (by decide) (fun c => absurd c (by decide)) (fun _ => ?_)
  refine lv_lload hx hb dX10_gcd_30 (lv_at hl 2 rfl) ?_
  refine lv_lload hx hb dX10_gcd_32 (lv_at hl 1 rfl) ?_
  refine lv_lrem hx hb dX10_gcd_34 (by decide) ?_
  refine lv_topl (fun x_4 ex_4 => ?_)
  obtain rfl : x_4 = 0 := ex_4.trans (by first | rfl | decide)
  refine lv_lstore (lv' := [(9, .long 0), (8, .int 0), (6, .long 1), (4, .long 0), (0, .long 0), (2, .long 1)]) hx hb dX10_gcd_35 hl (by decide) rfl (fun ls hl => ?_)
  refine lv_lload hx hb dX10_gcd_37 (lv_at hl 2 rfl) ?_
  refine lv_lstore (lv' := [(4, .long 1), (9, .long 0), (8, .int 0), (6, .long 1), (0, .long 0), (2, .long 1)]) hx hb dX10_gcd_39 hl (by decide) rfl (fun ls hl => ?_)
  refine lv_lload hx hb dX10_gcd_41 (lv_at hl 1 rfl) ?_
  refine lv_lstore (lv' := [(6, .long 0), (4, .long 1), (9, .long 0), (8, .int 0), (0, .long 0), (2, .long 1)]) hx hb dX10_gcd_43 hl (by decide) rfl (fun ls hl => ?_)
  refine lv_iinc (v := 1) (lv' := [(8, .int 1), (6, .long 0), (4, .long 1), (9, .long 0), (0, .long 0), (2, .long 1)]) hx hb dX10_gcd_45 hl (k := 3) rfl (by decide) (by decide) rfl (fun ls hl => ?_)
  refine lv_goto (tgt := 15) hx hb dX10_gcd_48 (by decide) ?_
  refine lv_iload hx hb dX10_gcd_15 (lv_at hl 0 rfl) ?_
  refine lv_sipush (v := 200) hx hb dX10_gcd_17 (by decide) ?_
  refine lv_icmp_ge (tgt := 51) hx hb dX10_gcd_20 (by decide) (fun c => absurd c (by decide)) (fun _ => ?_)
  refine lv_lload hx hb dX10_gcd_23 (lv_at hl 1 rfl) ?_
  refine lv_lconst (v := 0) hx hb dX10_gcd_25 (by decide) ?_
  refine W.lcmp hx hb dX10_gcd_26 ?_
  refine lv_topi (fun x_5 ex_5 => ?_)
  obtain rfl : x_5 = 0 := ex_5.trans (by first | rfl | decide)
  refine lv_if_eq (tgt := 51) hx hb dX10_gcd_27 (by decide) (fun _ => ?_) (fun c => absurd (by decide) c)
  refine lv_lload hx hb dX10_gcd_51 (lv_at hl 2 rfl) ?_
  refine W.widen (k := 0) (n := 0) (Nat.le_of_ble_eq_true rfl) (Nat.le_of_ble_eq_true rfl) ?_
  exact W.lret (v := 1) hx hb hr (fun t ht hW => ⟨⟨1, (), rfl, rfl, trivial⟩, hS.F ht⟩) hS.2.2 dX10_gcd_53
set_option maxHeartbeats 4000000 in
set_option maxRecDepth 100000 in
theorem c_J7_fill_d0a16 (l : Launch) (dC : Nat → ClassId) (dI : Nat → Nat → Nat) (cB cI cJ : ClassId) (sz : Nat) (hM : Nat) : Met l yJ7_fill_d0a16 wsJ7_fill_d0a16 ({ frames := 1, cells := 0, slots := 0, locals := 24 }) (va_Pc [.ref hM, .long 0] (fun U => U.heap.size = sz ∧ va_P (dC, dI) vwCl [(hM, .inl (cJ, 6, (.inr (.inl (fun _ => 0)))))] U.heap ∧ va_K (dC, dI) vwCl [(cB, .byte), (cI, .int), (cJ, .long)] U ∧ va_D (fun _ => True) [(hM, .inl (cJ, 6, (.inr (.inl (fun _ => 0)))))])) (va_Qv (fun _ : Unit => True) (fun _ t => va_P (dC, dI) vwCl [(hM, .inl (cJ, 6, (.inr (.inl (fun _ => 0)))))] t.heap ∧ va_K (dC, dI) vwCl [(cB, .byte), (cI, .int), (cJ, .long)] t ∧ va_D (va_A [(hM, .inl (cJ, 6, (.inr (.inl (fun _ => 0)))))] sz) [(hM, .inl (cJ, 6, (.inr (.inl (fun _ => 0)))))]) (va_A [(hM, .inl (cJ, 6, (.inr (.inl (fun _ => 0)))))] sz)) 0 0 (va_A [(hM, .inl (cJ, 6, (.inr (.inl (fun _ => 0)))))] sz) := by
  refine Met.ofW (cc := cJ7_fill_d0a16) (maxL := 5) (ret := none) (by decide) rfl ?_
  intro p e s m args below meth c s₁ B hml hv
  obtain ⟨rfl, hsz, hP, hK, hD0⟩ := hv
  have hx := B.exec
  have hb := B.bytes
  have hr := B.returns
  have hts := atoms_spec (ws := wsJ7_fill_d0a16) B.pre
  have hown : s.vm.findClass RJ7 = some m.cls := findClass_of_methodNamed B.named
  have hlocks := B.notSynchronized
  subst hsz
  have hD := hD0.self (sz := s.heap.size)
  generalize hAe : va_A [(hM, .inl (cJ, 6, (.inr (.inl (fun _ => 0)))))] s.heap.size = A at hD ⊢
  have hA : ∀ q : Nat, s.heap.size ≤ q → A q := fun q h => by rw [← hAe]; exact Or.inr h
  have hS : va_S A s.heap s.heap [] := va_S.rf
  have hP : va_P (dC, dI) vwCl [(hM, .inl (cJ, 6, (.inr (.inl (fun _ => 0)))))] s.heap := hP
  have hl := lv_entry ([.ref hM, .long 0]) (n := 5) (Nat.le_of_ble_eq_true rfl)
  rw [lg_entry_eq]
  generalize (lg_sl ([.ref hM, .long 0]) ++ List.replicate (5 - (lg_sl ([.ref hM, .long 0])).length) Slot.unset).toArray = ls at hl ⊢
  have hl : lv_has ls 5 [(0, .ref hM), (1, .long 0)] := hl
  refine lv_iconst (v := 0) hx hb dJ7_fill_d0a16_0 (by decide) ?_
  refine lv_istore_n (lv' := [(3, .int 0), (0, .ref hM), (1, .long 0)]) hx hb dJ7_fill_d0a16_1 rfl hl (by decide) rfl (fun ls hl => ?_)
  refine lv_aload_n hx hb dJ7_fill_d0a16_2 rfl (lv_at hl 1 rfl) ?_
  refine va_alen (v := 6) hx hb hK hP 0 2 rfl rfl rfl dJ7_fill_d0a16_3 ?_
  refine lv_istore (lv' := [(4, .int 6), (3, .int 0), (0, .ref hM), (1, .long 0)]) hx hb dJ7_fill_d0a16_4 hl (by decide) rfl (fun ls hl => ?_)
  refine lv_iload_n hx hb dJ7_fill_d0a16_6 rfl (lv_at hl 1 rfl) ?_
  refine lv_iload hx hb dJ7_fill_d0a16_7 (lv_at hl 0 rfl) ?_
  refine lv_icmp_ge (tgt := 22) hx hb dJ7_fill_d0a16_9 (by decide) (fun c => absurd c (by decide)) (fun _ => ?_)
  refine lv_aload_n hx hb dJ7_fill_d0a16_12 rfl (lv_at hl 2 rfl) ?_
  refine lv_iload_n hx hb dJ7_fill_d0a16_13 rfl (lv_at hl 1 rfl) ?_
  refine lv_lload_n hx hb dJ7_fill_d0a16_14 rfl (lv_at hl 3 rfl) ?_
  refine va_last hx hb hK hP hD hS 0 2 rfl rfl (by show ¬ (_ ∨ _); decide) dJ7_fill_d0a16_15 (fun H locs hP hD hS => ?_)
  rw [nk_updL0] at hP hD
  have hP : va_P (dC, dI) vwCl [(hM, .inl (cJ, 6, (.inr (.inl (fun _ => 0)))))] H := hP
  have hD : va_D A [(hM, .inl (cJ, 6, (.inr (.inl (fun _ => 0)))))] := hD
  refine lv_iinc (v := 1) (lv' := [(3, .int 1), (4, .int 6), (0, .ref hM), (1, .long 0)]) hx hb dJ7_fill_d0a16_16 hl (k := 1) rfl (by decide) (by decide) rfl (fun ls hl => ?_)
  refine lv_goto (tgt := 6) hx hb dJ7_fill_d0a16_19 (by decide) ?_
  refine lv_iload_n hx hb dJ7_fill_d0a16_6 rfl (lv_at hl 0 rfl) ?_
  refine lv_iload hx hb dJ7_fill_d0a16_7 (lv_at hl 1 rfl) ?_
  refine lv_icmp_ge (tgt := 22) hx hb dJ7_fill_d0a16_9 (by decide) (fun c => absurd c (by decide)) (fun _ => ?_)
  refine lv_aload_n hx hb dJ7_fill_d0a16_12 rfl (lv_at hl 2 rfl) ?_
  refine lv_iload_n hx hb dJ7_fill_d0a16_13 rfl (lv_at hl 0 rfl) ?_
  refine lv_lload_n hx hb dJ7_fill_d0a16_14 rfl (lv_at hl 3 rfl) ?_
  refine va_last hx hb hK hP hD hS 0 2 rfl rfl (by show ¬ (_ ∨ _); decide) dJ7_fill_d0a16_15 (fun H locs hP hD hS => ?_)
  rw [nk_updL0] at hP hD
  have hP : va_P (dC, dI) vwCl [(hM, .inl (cJ, 6, (.inr (.inl (fun _ => 0)))))] H := hP
  have hD : va_D A [(hM, .inl (cJ, 6, (.inr (.inl (fun _ => 0)))))] := hD
  refine lv_iinc (v := 2) (lv' := [(3, .int 2), (4, .int 6), (0, .ref hM), (1, .long 0)]) hx hb dJ7_fill_d0a16_16 hl (k := 0) rfl (by decide) (by decide) rfl (fun ls hl => ?_)
  refine lv_goto (tgt := 6) hx hb dJ7_fill_d0a16_19 (by decide) ?_
  refine lv_iload_n hx hb dJ7_fill_d0a16_6 rfl (lv_at hl 0 rfl) ?_
  refine lv_iload hx hb dJ7_fill_d0a16_7 (lv_at hl 1 rfl) ?_
  refine lv_icmp_ge (tgt := 22) hx hb dJ7_fill_d0a16_9 (by decide) (fun c => absurd c (by decide)) (fun _ => ?_)
  refine lv_aload_n hx hb dJ7_fill_d0a16_12 rfl (lv_at hl 2 rfl) ?_
  refine lv_iload_n hx hb dJ7_fill_d0a16_13 rfl (lv_at hl 0 rfl) ?_
  refine lv_lload_n hx hb dJ7_fill_d0a16_14 rfl (lv_at hl 3 rfl) ?_
  refine va_last hx hb hK hP hD hS 0 2 rfl rfl (by show ¬ (_ ∨ _); decide) dJ7_fill_d0a16_15 (fun H locs hP hD hS => ?_)
  rw [nk_updL0] at hP hD
  have hP : va_P (dC, dI) vwCl [(hM, .inl (cJ, 6, (.inr (.inl (fun _ => 0)))))] H := hP
  have hD : va_D A [(hM, .inl (cJ, 6, (.inr (.inl (fun _ => 0)))))] := hD
  refine lv_iinc (v := 3) (lv' := [(3, .int 3), (4, .int 6), (0, .ref hM), (1, .long 0)]) hx hb dJ7_fill_d0a16_16 hl (k := 0) rfl (by decide) (by decide) rfl (fun ls hl => ?_)
  refine lv_goto (tgt := 6) hx hb dJ7_fill_d0a16_19 (by decide) ?_
  refine lv_iload_n hx hb dJ7_fill_d0a16_6 rfl (lv_at hl 0 rfl) ?_
  refine lv_iload hx hb dJ7_fill_d0a16_7 (lv_at hl 1 rfl) ?_
  refine lv_icmp_ge (tgt := 22) hx hb dJ7_fill_d0a16_9 (by decide) (fun c => absurd c (by decide)) (fun _ => ?_)
  refine lv_aload_n hx hb dJ7_fill_d0a16_12 rfl (lv_at hl 2 rfl) ?_
  refine lv_iload_n hx hb dJ7_fill_d0a16_13 rfl (lv_at hl 0 rfl) ?_
  refine lv_lload_n hx hb dJ7_fill_d0a16_14 rfl (lv_at hl 3 rfl) ?_
  refine va_last hx hb hK hP hD hS 0 2 rfl rfl (by show ¬ (_ ∨ _); decide) dJ7_fill_d0a16_15 (fun H locs hP hD hS => ?_)
  rw [nk_updL0] at hP hD
  have hP : va_P (dC, dI) vwCl [(hM, .inl (cJ, 6, (.inr (.inl (fun _ => 0)))))] H := hP
  have hD : va_D A [(hM, .inl (cJ, 6, (.inr (.inl (fun _ => 0)))))] := hD
  refine lv_iinc (v := 4) (lv' := [(3, .int 4), (4, .int 6), (0, .ref hM), (1, .long 0)]) hx hb dJ7_fill_d0a16_16 hl (k := 0) rfl (by decide) (by decide) rfl (fun ls hl => ?_)
  refine lv_goto (tgt := 6) hx hb dJ7_fill_d0a16_19 (by decide) ?_
  refine lv_iload_n hx hb dJ7_fill_d0a16_6 rfl (lv_at hl 0 rfl) ?_
  refine lv_iload hx hb dJ7_fill_d0a16_7 (lv_at hl 1 rfl) ?_
  refine lv_icmp_ge (tgt := 22) hx hb dJ7_fill_d0a16_9 (by decide) (fun c => absurd c (by decide)) (fun _ => ?_)
  refine lv_aload_n hx hb dJ7_fill_d0a16_12 rfl (lv_at hl 2 rfl) ?_
  refine lv_iload_n hx hb dJ7_fill_d0a16_13 rfl (lv_at hl 0 rfl) ?_
  refine lv_lload_n hx hb dJ7_fill_d0a16_14 rfl (lv_at hl 3 rfl) ?_
  refine va_last hx hb hK hP hD hS 0 2 rfl rfl (by show ¬ (_ ∨ _); decide) dJ7_fill_d0a16_15 (fun H locs hP hD hS => ?_)
  rw [nk_updL0] at hP hD
  have hP : va_P (dC, dI) vwCl [(hM, .inl (cJ, 6, (.inr (.inl (fun _ => 0)))))] H := hP
  have hD : va_D A [(hM, .inl (cJ, 6, (.inr (.inl (fun _ => 0)))))] := hD
  refine lv_iinc (v := 5) (lv' := [(3, .int 5), (4, .int 6), (0, .ref hM), (1, .long 0)]) hx hb dJ7_fill_d0a16_16 hl (k := 0) rfl (by decide) (by decide) rfl (fun ls hl => ?_)
  refine lv_goto (tgt := 6) hx hb dJ7_fill_d0a16_19 (by decide) ?_
  refine lv_iload_n hx hb dJ7_fill_d0a16_6 rfl (lv_at hl 0 rfl) ?_
  refine lv_iload hx hb dJ7_fill_d0a16_7 (lv_at hl 1 rfl) ?_
  refine lv_icmp_ge (tgt := 22) hx hb dJ7_fill_d0a16_9 (by decide) (fun c => absurd c (by decide)) (fun _ => ?_)
  refine lv_aload_n hx hb dJ7_fill_d0a16_12 rfl (lv_at hl 2 rfl) ?_
  refine lv_iload_n hx hb dJ7_fill_d0a16_13 rfl (lv_at hl 0 rfl) ?_
  refine lv_lload_n hx hb dJ7_fill_d0a16_14 rfl (lv_at hl 3 rfl) ?_
  refine va_last hx hb hK hP hD hS 0 2 rfl rfl (by show ¬ (_ ∨ _); decide) dJ7_fill_d0a16_15 (fun H locs hP hD hS => ?_)
  rw [nk_updL0] at hP hD
  have hP : va_P (dC, dI) vwCl [(hM, .inl (cJ, 6, (.inr (.inl (fun _ => 0)))))] H := hP
  have hD : va_D A [(hM, .inl (cJ, 6, (.inr (.inl (fun _ => 0)))))] := hD
  refine lv_iinc (v := 6) (lv' := [(3, .int 6), (4, .int 6), (0, .ref hM), (1, .long 0)]) hx hb dJ7_fill_d0a16_16 hl (k := 0) rfl (by decide) (by decide) rfl (fun ls hl => ?_)
  refine lv_goto (tgt := 6) hx hb dJ7_fill_d0a16_19 (by decide) ?_
  refine lv_iload_n hx hb dJ7_fill_d0a16_6 rfl (lv_at hl 0 rfl) ?_
  refine lv_iload hx hb dJ7_fill_d0a16_7 (lv_at hl 1 rfl) ?_
  refine lv_icmp_ge (tgt := 22) hx hb dJ7_fill_d0a16_9 (by decide) (fun _ => ?_) (fun c => absurd (by decide) c)
  have hP9 := hP.sub (ws' := [(hM, .inl (cJ, 6, (.inr (.inl (fun _ => 0)))))]) [0] rfl
  have hD9 := hD.sub (ws' := [(hM, .inl (cJ, 6, (.inr (.inl (fun _ => 0)))))]) [0] (by decide) rfl
  refine W.widen (k := 0) (n := 0) (Nat.le_of_ble_eq_true rfl) (Nat.le_of_ble_eq_true rfl) ?_
  exact W.vret hx hb hr (fun t ht hW => ⟨⟨(), rfl, trivial, by rw [ht]; exact hP9, va_K.moved hW.alike hK, hD9⟩, hS.F ht⟩) hS.2.2 dJ7_fill_d0a16_22
set_option maxHeartbeats 4000000 in
set_option maxRecDepth 100000 in
theorem c_X3_keepTimes (l : Launch) (dC : Nat → ClassId) (dI : Nat → Nat → Nat) (cB cI cJ : ClassId) (sz : Nat) (xHan hH hR hT hM : Nat) (ft : Nat → Int64) : Met l yX3_keepTimes wsX3_keepTimes ({ frames := 3, cells := 0, slots := 0, locals := 70 }) (va_Pc [.ref xHan] (fun U => U.heap.size = sz ∧ va_P (dC, dI) vwCl [(xHan, .inr (3, [.int 0, .int 0, .int 1, .ref hH, .ref hR, .ref hT, .ref hM])), (hM, .inl (cJ, 6, (.inr (.inl (fun _ => 0))))), (hT, .inl (cJ, 7, (.inr (.inl (vp_updL ft (0 : Int32).toNatClampNeg 1)))))] U.heap ∧ va_K (dC, dI) vwCl [(cB, .byte), (cI, .int), (cJ, .long)] U ∧ va_D (fun _ => True) [(xHan, .inr (3, [.int 0, .int 0, .int 1, .ref hH, .ref hR, .ref hT, .ref hM])), (hM, .inl (cJ, 6, (.inr (.inl (fun _ => 0))))), (hT, .inl (cJ, 7, (.inr (.inl (vp_updL ft (0 : Int32).toNatClampNeg 1)))))] ∧ va_Nw (.methodLinkNest RX3 62 yX10_gcd "ScissorsTable") U)) (va_Qv (fun _ : Unit => True) (fun _ t => va_P (dC, dI) vwCl [(xHan, .inr (3, [.int 0, .int 0, .int 1, .ref hH, .ref hR, .ref hT, .ref hM])), (hT, .inl (cJ, 7, (.inr (.inl (vp_updL ft (0 : Int32).toNatClampNeg 1))))), (hM, .inl (cJ, 6, (.inr (.inl (vp_updL (fun _ => 0) (0 : Int32).toNatClampNeg 1)))))] t.heap ∧ va_K (dC, dI) vwCl [(cB, .byte), (cI, .int), (cJ, .long)] t ∧ va_D (va_A [(xHan, .inr (3, [.int 0, .int 0, .int 1, .ref hH, .ref hR, .ref hT, .ref hM])), (hM, .inl (cJ, 6, (.inr (.inl (fun _ => 0))))), (hT, .inl (cJ, 7, (.inr (.inl (vp_updL ft (0 : Int32).toNatClampNeg 1)))))] sz) [(xHan, .inr (3, [.int 0, .int 0, .int 1, .ref hH, .ref hR, .ref hT, .ref hM])), (hT, .inl (cJ, 7, (.inr (.inl (vp_updL ft (0 : Int32).toNatClampNeg 1))))), (hM, .inl (cJ, 6, (.inr (.inl (vp_updL (fun _ => 0) (0 : Int32).toNatClampNeg 1)))))]) (va_A [(xHan, .inr (3, [.int 0, .int 0, .int 1, .ref hH, .ref hR, .ref hT, .ref hM])), (hM, .inl (cJ, 6, (.inr (.inl (fun _ => 0))))), (hT, .inl (cJ, 7, (.inr (.inl (vp_updL ft (0 : Int32).toNatClampNeg 1)))))] sz)) 0 0 (va_A [(xHan, .inr (3, [.int 0, .int 0, .int 1, .ref hH, .ref hR, .ref hT, .ref hM])), (hM, .inl (cJ, 6, (.inr (.inl (fun _ => 0))))), (hT, .inl (cJ, 7, (.inr (.inl (vp_updL ft (0 : Int32).toNatClampNeg 1)))))] sz) := by
  refine Met.ofW (cc := cX3_keepTimes) (maxL := 6) (ret := none) (by decide) rfl ?_
  intro p e s m args below meth c s₁ B hml hv
  obtain ⟨rfl, hsz, hP, hK, hD0, hN0⟩ := hv
  have hx := B.exec
  have hb := B.bytes
  have hr := B.returns
  have hts := atoms_spec (ws := wsX3_keepTimes) B.pre
  have hown : s.vm.findClass RX3 = some m.cls := findClass_of_methodNamed B.named
  have hlocks := B.notSynchronized
  have hiX3 : ∀ w ∈ u_ws RX3 TX3 7, w ∈ wsX3_keepTimes := by decide +kernel
  subst hsz
  have hD := hD0.self (sz := s.heap.size)
  generalize hAe : va_A [(xHan, .inr (3, [.int 0, .int 0, .int 1, .ref hH, .ref hR, .ref hT, .ref hM])), (hM, .inl (cJ, 6, (.inr (.inl (fun _ => 0))))), (hT, .inl (cJ, 7, (.inr (.inl (vp_updL ft (0 : Int32).toNatClampNeg 1)))))] s.heap.size = A at hD ⊢
  have hA : ∀ q : Nat, s.heap.size ≤ q → A q := fun q h => by rw [← hAe]; exact Or.inr h
  have hS : va_S A s.heap s.heap [] := va_S.rf
  have hP : va_P (dC, dI) vwCl [(xHan, .inr (3, [.int 0, .int 0, .int 1, .ref hH, .ref hR, .ref hT, .ref hM])), (hM, .inl (cJ, 6, (.inr (.inl (fun _ => 0))))), (hT, .inl (cJ, 7, (.inr (.inl (vp_updL ft (0 : Int32).toNatClampNeg 1)))))] s.heap := hP
  have hl := lv_entry ([.ref xHan]) (n := 6) (Nat.le_of_ble_eq_true rfl)
  rw [lg_entry_eq]
  generalize (lg_sl ([.ref xHan]) ++ List.replicate (6 - (lg_sl ([.ref xHan])).length) Slot.unset).toArray = ls at hl ⊢
  have hl : lv_has ls 6 [(0, .ref xHan)] := hl
  refine lv_aload_n hx hb dX3_keepTimes_0 rfl (lv_at hl 0 rfl) ?_
  refine va_get (D := (dC, dI)) (ci := 3) (v := .ref hM) (C := RX3) (T := TX3) (N := 7) hx hb hts hiX3 hown hK hP 0 rfl rfl 6 (by decide) (hts (.fieldLink RX3 22 "ScissorsTable$Hang" "times" "[J") (by decide +kernel)) (fun _ h9 => h9) rfl dX3_keepTimes_1 ?_
  refine lv_lconst (v := 0) hx hb dX3_keepTimes_4 (by decide) ?_
  have hPc := hP.sub (ws' := [(hM, .inl (cJ, 6, (.inr (.inl (fun _ => 0)))))]) [1] rfl
  have hDc := hD.sub (ws' := [(hM, .inl (cJ, 6, (.inr (.inl (fun _ => 0)))))]) [1] (by decide) rfl
  have hFc := va_free (wc := [(hM, .inl (cJ, 6, (.inr (.inl (fun _ => 0)))))]) hD hS hA [1] rfl
  refine va_callv (va_runS (As := [.ref hM, .long 0]) (rest := []) ⟨hx, hb, hml, hown, hts⟩ (c_J7_fill_d0a16 l dC dI cB cI cJ s.heap.size hM) (va_cwS 2 hts gX3_keepTimes_J7_fill_d0a16 rfl rfl rfl (by decide +kernel) ⟨Nat.le_of_ble_eq_true rfl, Nat.le_of_ble_eq_true rfl⟩) ⟨fun a U g mk q => by obtain ⟨q0, q1, qP, qK, qD⟩ := q; exact ⟨q0, q1, qP, va_K.moved (u := U) (U := U.calling g mk a) (Vm.Alike.refl U.vm) qK, qD⟩, fun U hU hW => ⟨rfl, by rw [hU], by rw [hU]; exact hPc, va_K.moved hW.alike hK, hDc.weaken (fun _ _ _ _ => trivial)⟩⟩ rfl rfl hl.1 rfl (lv_room (Nat.le_of_ble_eq_true rfl)) dX3_keepTimes_5 ⟨Nat.le_of_ble_eq_true rfl, Nat.le_of_ble_eq_true rfl⟩) hS (fun q _ h => hFc q h) hFc (fun u t H1 locs ht hvm hw hB hz1 hk1 hS => ?_)
  obtain ⟨hP1, hK1, hD1⟩ := hB
  rw [ht] at hP1
  obtain ⟨hP, hD⟩ := va_join (wr := [(xHan, .inr (3, [.int 0, .int 0, .int 1, .ref hH, .ref hR, .ref hT, .ref hM])), (hT, .inl (cJ, 7, (.inr (.inl (vp_updL ft (0 : Int32).toNatClampNeg 1)))))]) (w1 := [(hM, .inl (cJ, 6, (.inr (.inl (fun _ => 0)))))]) hP hD [1] [0, 2] rfl rfl (by decide) (by decide) hk1 hFc hP1 hD1
  generalize H1 = H at hP hS ⊢
  have hP : va_P (dC, dI) vwCl [(xHan, .inr (3, [.int 0, .int 0, .int 1, .ref hH, .ref hR, .ref hT, .ref hM])), (hT, .inl (cJ, 7, (.inr (.inl (vp_updL ft (0 : Int32).toNatClampNeg 1))))), (hM, .inl (cJ, 6, (.inr (.inl (fun _ => 0)))))] H := hP
  have hD : va_D A [(xHan, .inr (3, [.int 0, .int 0, .int 1, .ref hH, .ref hR, .ref hT, .ref hM])), (hT, .inl (cJ, 7, (.inr (.inl (vp_updL ft (0 : Int32).toNatClampNeg 1))))), (hM, .inl (cJ, 6, (.inr (.inl (fun _ => 0)))))] := hD
  refine lv_lconst (v := 0) hx hb dX3_keepTimes_8 (by decide) ?_
  refine lv_lstore_n (lv' := [(1, .long 0), (0, .ref xHan)]) hx hb dX3_keepTimes_9 rfl hl (by decide) rfl (fun ls hl => ?_)
  refine lv_iconst (v := 0) hx hb dX3_keepTimes_10 (by decide) ?_
  refine lv_istore_n (lv' := [(3, .int 0), (1, .long 0), (0, .ref xHan)]) hx hb dX3_keepTimes_11 rfl hl (by decide) rfl (fun ls hl => ?_)
  refine lv_iload_n hx hb dX3_keepTimes_12 rfl (lv_at hl 0 rfl) ?_
  refine lv_aload_n hx hb dX3_keepTimes_13 rfl (lv_at hl 2 rfl) ?_
  refine va_get (D := (dC, dI)) (ci := 3) (v := .int 0) (C := RX3) (T := TX3) (N := 7) hx hb hts hiX3 hown hK hP 0 rfl rfl 0 (by decide) (hts (.fieldLink RX3 25 "ScissorsTable$Hang" "rank" "I") (by decide +kernel)) (fun _ h9 => h9) rfl dX3_keepTimes_14 ?_
  refine lv_icmp_gt (tgt := 37) hx hb dX3_keepTimes_17 (by decide) (fun c => absurd c (by decide)) (fun _ => ?_)
  refine lv_lload_n hx hb dX3_keepTimes_20 rfl (lv_at hl 1 rfl) ?_
  refine lv_aload_n hx hb dX3_keepTimes_21 rfl (lv_at hl 2 rfl) ?_
  refine va_get (D := (dC, dI)) (ci := 3) (v := .ref hT) (C := RX3) (T := TX3) (N := 7) hx hb hts hiX3 hown hK hP 0 rfl rfl 5 (by decide) (hts (.fieldLink RX3 18 "ScissorsTable$Hang" "trial" "[J") (by decide +kernel)) (fun _ h9 => h9) rfl dX3_keepTimes_22 ?_
  refine lv_iload_n hx hb dX3_keepTimes_25 rfl (lv_at hl 0 rfl) ?_
  refine va_lald hx hb hK hP 1 2 rfl rfl (by show ¬ (_ ∨ _); decide) dX3_keepTimes_26 ?_
  refine lv_topl (fun x_1 ex_1 => ?_)
  obtain rfl : x_1 = 1 := ex_1.trans (by first | rfl | decide)
  have hPc := hP.sub (ws' := []) [] rfl
  have hDc := hD.sub (ws' := []) [] (by decide) rfl
  have hFc := va_free (wc := []) hD hS hA [] rfl
  refine va_calll (va_runSN (As := [.long 0, .long 1]) (rest := []) ⟨hx, hb, hml, hown, hts⟩ (c_X10_gcd l dC dI cB cI cJ H.size ) ⟨(va_cnB 2 hts gX3_keepTimes_X10_gcd_n62 rfl rfl rfl hN0 (hts (.initialized RX10) (by decide +kernel)) (by decide +kernel) ⟨Nat.le_of_ble_eq_true rfl, Nat.le_of_ble_eq_true rfl⟩), (hts (.static yX10_gcd) (by decide +kernel)), trivial⟩ ⟨fun a U g mk q => by obtain ⟨q0, q1, qP, qK, qD⟩ := q; exact ⟨q0, q1, qP, va_K.moved (u := U) (U := U.calling g mk a) (Vm.Alike.refl U.vm) qK, qD⟩, fun U hU hW => ⟨rfl, by rw [hU], by rw [hU]; exact hPc, va_K.moved hW.alike hK, hDc.weaken (fun _ _ _ _ => trivial)⟩⟩ rfl rfl hl.1 rfl (lv_room (Nat.le_of_ble_eq_true rfl)) dX3_keepTimes_27 ⟨Nat.le_of_ble_eq_true rfl, Nat.le_of_ble_eq_true rfl⟩) hS (fun q _ h => hFc q h) hFc (fun r_2 u t H1 locs ht hvm hw hB hz1 hk1 hS => ?_)
  have hP1 : va_P (dC, dI) vwCl [] H1 := fun k q h => by simp at h
  have hD1 : va_D (va_A [] H.size) [] := ⟨fun i j p q h => by simp at h, fun k q h => by simp at h⟩
  obtain ⟨hP, hD⟩ := va_join (wr := [(xHan, .inr (3, [.int 0, .int 0, .int 1, .ref hH, .ref hR, .ref hT, .ref hM])), (hT, .inl (cJ, 7, (.inr (.inl (vp_updL ft (0 : Int32).toNatClampNeg 1))))), (hM, .inl (cJ, 6, (.inr (.inl (fun _ => 0)))))]) (w1 := []) hP hD [] [0, 1, 2] rfl rfl (by decide) (by decide) hk1 hFc hP1 hD1
  generalize H1 = H at hP hS ⊢
  have hP : va_P (dC, dI) vwCl [(xHan, .inr (3, [.int 0, .int 0, .int 1, .ref hH, .ref hR, .ref hT, .ref hM])), (hT, .inl (cJ, 7, (.inr (.inl (vp_updL ft (0 : Int32).toNatClampNeg 1))))), (hM, .inl (cJ, 6, (.inr (.inl (fun _ => 0)))))] H := hP
  have hD : va_D A [(xHan, .inr (3, [.int 0, .int 0, .int 1, .ref hH, .ref hR, .ref hT, .ref hM])), (hT, .inl (cJ, 7, (.inr (.inl (vp_updL ft (0 : Int32).toNatClampNeg 1))))), (hM, .inl (cJ, 6, (.inr (.inl (fun _ => 0)))))] := hD
  have hr_2 := hw
  obtain rfl : r_2 = 1 := hr_2
  refine lv_lstore_n (lv' := [(1, .long 1), (3, .int 0), (0, .ref xHan)]) hx hb dX3_keepTimes_30 rfl hl (by decide) rfl (fun ls hl => ?_)
  refine lv_iinc (v := 1) (lv' := [(3, .int 1), (1, .long 1), (0, .ref xHan)]) hx hb dX3_keepTimes_31 hl (k := 1) rfl (by decide) (by decide) rfl (fun ls hl => ?_)
  refine lv_goto (tgt := 12) hx hb dX3_keepTimes_34 (by decide) ?_
  refine lv_iload_n hx hb dX3_keepTimes_12 rfl (lv_at hl 0 rfl) ?_
  refine lv_aload_n hx hb dX3_keepTimes_13 rfl (lv_at hl 2 rfl) ?_
  refine va_get (D := (dC, dI)) (ci := 3) (v := .int 0) (C := RX3) (T := TX3) (N := 7) hx hb hts hiX3 hown hK hP 0 rfl rfl 0 (by decide) (hts (.fieldLink RX3 25 "ScissorsTable$Hang" "rank" "I") (by decide +kernel)) (fun _ h9 => h9) rfl dX3_keepTimes_14 ?_
  refine lv_icmp_gt (tgt := 37) hx hb dX3_keepTimes_17 (by decide) (fun _ => ?_) (fun c => absurd (by decide) c)
  refine lv_aload_n hx hb dX3_keepTimes_37 rfl (lv_at hl 2 rfl) ?_
  refine va_get (D := (dC, dI)) (ci := 3) (v := .ref hT) (C := RX3) (T := TX3) (N := 7) hx hb hts hiX3 hown hK hP 0 rfl rfl 5 (by decide) (hts (.fieldLink RX3 18 "ScissorsTable$Hang" "trial" "[J") (by decide +kernel)) (fun _ h9 => h9) rfl dX3_keepTimes_38 ?_
  refine lv_aload_n hx hb dX3_keepTimes_41 rfl (lv_at hl 2 rfl) ?_
  refine va_get (D := (dC, dI)) (ci := 3) (v := .int 0) (C := RX3) (T := TX3) (N := 7) hx hb hts hiX3 hown hK hP 0 rfl rfl 0 (by decide) (hts (.fieldLink RX3 25 "ScissorsTable$Hang" "rank" "I") (by decide +kernel)) (fun _ h9 => h9) rfl dX3_keepTimes_42 ?_
  refine va_lald hx hb hK hP 1 2 rfl rfl (by show ¬ (_ ∨ _); decide) dX3_keepTimes_45 ?_
  refine lv_topl (fun x_3 ex_3 => ?_)
  obtain rfl : x_3 = 1 := ex_3.trans (by first | rfl | decide)
  refine lv_lconst (v := 0) hx hb dX3_keepTimes_46 (by decide) ?_
  refine W.lcmp hx hb dX3_keepTimes_47 ?_
  refine lv_topi (fun x_4 ex_4 => ?_)
  obtain rfl : x_4 = 1 := ex_4.trans (by first | rfl | decide)
  refine lv_if_ge (tgt := 56) hx hb dX3_keepTimes_48 (by decide) (fun _ => ?_) (fun c => absurd (by decide) c)
  refine lv_lload_n hx hb dX3_keepTimes_56 rfl (lv_at hl 1 rfl) ?_
  refine lv_lstore_n (lv' := [(3, .long 1), (1, .long 1), (0, .ref xHan)]) hx hb dX3_keepTimes_57 rfl hl (by decide) rfl (fun ls hl => ?_)
  refine lv_iconst (v := 0) hx hb dX3_keepTimes_58 (by decide) ?_
  refine lv_istore (lv' := [(5, .int 0), (3, .long 1), (1, .long 1), (0, .ref xHan)]) hx hb dX3_keepTimes_59 hl (by decide) rfl (fun ls hl => ?_)
  refine lv_iload hx hb dX3_keepTimes_61 (lv_at hl 0 rfl) ?_
  refine lv_aload_n hx hb dX3_keepTimes_63 rfl (lv_at hl 3 rfl) ?_
  refine va_get (D := (dC, dI)) (ci := 3) (v := .int 0) (C := RX3) (T := TX3) (N := 7) hx hb hts hiX3 hown hK hP 0 rfl rfl 0 (by decide) (hts (.fieldLink RX3 25 "ScissorsTable$Hang" "rank" "I") (by decide +kernel)) (fun _ h9 => h9) rfl dX3_keepTimes_64 ?_
  refine lv_icmp_gt (tgt := 108) hx hb dX3_keepTimes_67 (by decide) (fun c => absurd c (by decide)) (fun _ => ?_)
  refine lv_iload hx hb dX3_keepTimes_70 (lv_at hl 0 rfl) ?_
  refine lv_aload_n hx hb dX3_keepTimes_72 rfl (lv_at hl 3 rfl) ?_
  refine va_get (D := (dC, dI)) (ci := 3) (v := .ref hM) (C := RX3) (T := TX3) (N := 7) hx hb hts hiX3 hown hK hP 0 rfl rfl 6 (by decide) (hts (.fieldLink RX3 22 "ScissorsTable$Hang" "times" "[J") (by decide +kernel)) (fun _ h9 => h9) rfl dX3_keepTimes_73 ?_
  refine va_alen (v := 6) hx hb hK hP 2 2 rfl rfl rfl dX3_keepTimes_76 ?_
  refine lv_icmp_ge (tgt := 108) hx hb dX3_keepTimes_77 (by decide) (fun c => absurd c (by decide)) (fun _ => ?_)
  refine lv_lload_n hx hb dX3_keepTimes_80 rfl (lv_at hl 1 rfl) ?_
  refine lv_lconst (v := 0) hx hb dX3_keepTimes_81 (by decide) ?_
  refine W.lcmp hx hb dX3_keepTimes_82 ?_
  refine lv_topi (fun x_5 ex_5 => ?_)
  obtain rfl : x_5 = 1 := ex_5.trans (by first | rfl | decide)
  refine lv_if_eq (tgt := 108) hx hb dX3_keepTimes_83 (by decide) (fun c => absurd c (by decide)) (fun _ => ?_)
  refine lv_aload_n hx hb dX3_keepTimes_86 rfl (lv_at hl 3 rfl) ?_
  refine va_get (D := (dC, dI)) (ci := 3) (v := .ref hM) (C := RX3) (T := TX3) (N := 7) hx hb hts hiX3 hown hK hP 0 rfl rfl 6 (by decide) (hts (.fieldLink RX3 22 "ScissorsTable$Hang" "times" "[J") (by decide +kernel)) (fun _ h9 => h9) rfl dX3_keepTimes_87 ?_
  refine lv_iload hx hb dX3_keepTimes_90 (lv_at hl 0 rfl) ?_
  refine lv_aload_n hx hb dX3_keepTimes_92 rfl (lv_at hl 3 rfl) ?_
  refine va_get (D := (dC, dI)) (ci := 3) (v := .ref hT) (C := RX3) (T := TX3) (N := 7) hx hb hts hiX3 hown hK hP 0 rfl rfl 5 (by decide) (hts (.fieldLink RX3 18 "ScissorsTable$Hang" "trial" "[J") (by decide +kernel)) (fun _ h9 => h9) rfl dX3_keepTimes_93 ?_
  refine lv_iload hx hb dX3_keepTimes_96 (lv_at hl 0 rfl) ?_
  refine va_lald hx hb hK hP 1 2 rfl rfl (by show ¬ (_ ∨ _); decide) dX3_keepTimes_98 ?_
  refine lv_topl (fun x_6 ex_6 => ?_)
  obtain rfl : x_6 = 1 := ex_6.trans (by first | rfl | decide)
  refine lv_lload_n hx hb dX3_keepTimes_99 rfl (lv_at hl 1 rfl) ?_
  refine lv_ldiv hx hb dX3_keepTimes_100 (by decide) ?_
  refine lv_topl (fun x_7 ex_7 => ?_)
  obtain rfl : x_7 = 1 := ex_7.trans (by first | rfl | decide)
  refine va_last hx hb hK hP hD hS 2 2 rfl rfl (by show ¬ (_ ∨ _); decide) dX3_keepTimes_101 (fun H locs hP hD hS => ?_)
  have hP : va_P (dC, dI) vwCl [(xHan, .inr (3, [.int 0, .int 0, .int 1, .ref hH, .ref hR, .ref hT, .ref hM])), (hT, .inl (cJ, 7, (.inr (.inl (vp_updL ft (0 : Int32).toNatClampNeg 1))))), (hM, .inl (cJ, 6, (.inr (.inl (vp_updL (fun _ => 0) (0 : Int32).toNatClampNeg 1)))))] H := hP
  have hD : va_D A [(xHan, .inr (3, [.int 0, .int 0, .int 1, .ref hH, .ref hR, .ref hT, .ref hM])), (hT, .inl (cJ, 7, (.inr (.inl (vp_updL ft (0 : Int32).toNatClampNeg 1))))), (hM, .inl (cJ, 6, (.inr (.inl (vp_updL (fun _ => 0) (0 : Int32).toNatClampNeg 1)))))] := hD
  refine lv_iinc (v := 1) (lv' := [(5, .int 1), (3, .long 1), (1, .long 1), (0, .ref xHan)]) hx hb dX3_keepTimes_102 hl (k := 0) rfl (by decide) (by decide) rfl (fun ls hl => ?_)
  refine lv_goto (tgt := 61) hx hb dX3_keepTimes_105 (by decide) ?_
  refine lv_iload hx hb dX3_keepTimes_61 (lv_at hl 0 rfl) ?_
  refine lv_aload_n hx hb dX3_keepTimes_63 rfl (lv_at hl 3 rfl) ?_
  refine va_get (D := (dC, dI)) (ci := 3) (v := .int 0) (C := RX3) (T := TX3) (N := 7) hx hb hts hiX3 hown hK hP 0 rfl rfl 0 (by decide) (hts (.fieldLink RX3 25 "ScissorsTable$Hang" "rank" "I") (by decide +kernel)) (fun _ h9 => h9) rfl dX3_keepTimes_64 ?_
  refine lv_icmp_gt (tgt := 108) hx hb dX3_keepTimes_67 (by decide) (fun _ => ?_) (fun c => absurd (by decide) c)
  have hP9 := hP.sub (ws' := [(xHan, .inr (3, [.int 0, .int 0, .int 1, .ref hH, .ref hR, .ref hT, .ref hM])), (hT, .inl (cJ, 7, (.inr (.inl (vp_updL ft (0 : Int32).toNatClampNeg 1))))), (hM, .inl (cJ, 6, (.inr (.inl (vp_updL (fun _ => 0) (0 : Int32).toNatClampNeg 1)))))]) [0, 1, 2] rfl
  have hD9 := hD.sub (ws' := [(xHan, .inr (3, [.int 0, .int 0, .int 1, .ref hH, .ref hR, .ref hT, .ref hM])), (hT, .inl (cJ, 7, (.inr (.inl (vp_updL ft (0 : Int32).toNatClampNeg 1))))), (hM, .inl (cJ, 6, (.inr (.inl (vp_updL (fun _ => 0) (0 : Int32).toNatClampNeg 1)))))]) [0, 1, 2] (by decide) rfl
  refine W.widen (k := 0) (n := 0) (Nat.le_of_ble_eq_true rfl) (Nat.le_of_ble_eq_true rfl) ?_
  exact W.vret hx hb hr (fun t ht hW => ⟨⟨(), rfl, trivial, by rw [ht]; exact hP9, va_K.moved hW.alike hK, hD9⟩, hS.F ht⟩) hS.2.2 dX3_keepTimes_108
set_option maxHeartbeats 4000000 in
set_option maxRecDepth 100000 in
theorem c_X3_minor_00 (l : Launch) (dC : Nat → ClassId) (dI : Nat → Nat → Nat) (cB cI cJ : ClassId) (sz : Nat) (xHan hH hR hT hM xSum : Nat) (p1 : Int32) : Met l yX3_minor wsX3_minor ({ frames := 1, cells := 0, slots := 0, locals := 24 }) (va_Pc [.ref xHan, .ref xSum, .int 0, .int p1] (fun U => U.heap.size = sz ∧ va_P (dC, dI) vwCl [(xHan, .inr (3, [.int 0, .int 0, .int 0, .ref hH, .ref hR, .ref hT, .ref hM]))] U.heap ∧ va_K (dC, dI) vwCl [(cB, .byte), (cI, .int), (cJ, .long)] U ∧ va_D (fun _ => True) [(xHan, .inr (3, [.int 0, .int 0, .int 0, .ref hH, .ref hR, .ref hT, .ref hM]))])) (va_Ql (fun (r : Int64) (_ : Unit) => r = 1) (fun _ t => va_P (dC, dI) vwCl [(xHan, .inr (3, [.int 0, .int 0, .int 0, .ref hH, .ref hR, .ref hT, .ref hM]))] t.heap ∧ va_K (dC, dI) vwCl [(cB, .byte), (cI, .int), (cJ, .long)] t ∧ va_D (va_A [(xHan, .inr (3, [.int 0, .int 0, .int 0, .ref hH, .ref hR, .ref hT, .ref hM]))] sz) [(xHan, .inr (3, [.int 0, .int 0, .int 0, .ref hH, .ref hR, .ref hT, .ref hM]))]) (va_A [(xHan, .inr (3, [.int 0, .int 0, .int 0, .ref hH, .ref hR, .ref hT, .ref hM]))] sz)) 0 0 (va_A [(xHan, .inr (3, [.int 0, .int 0, .int 0, .ref hH, .ref hR, .ref hT, .ref hM]))] sz) := by
  refine Met.ofW (cc := cX3_minor) (maxL := 12) (ret := (some .long)) (by decide) rfl ?_
  intro p e s m args below meth c s₁ B hml hv
  obtain ⟨rfl, hsz, hP, hK, hD0⟩ := hv
  have hx := B.exec
  have hb := B.bytes
  have hr := B.returns
  have hts := atoms_spec (ws := wsX3_minor) B.pre
  have hown : s.vm.findClass RX3 = some m.cls := findClass_of_methodNamed B.named
  have hlocks := B.notSynchronized
  have hiX3 : ∀ w ∈ u_ws RX3 TX3 7, w ∈ wsX3_minor := by decide +kernel
  subst hsz
  have hD := hD0.self (sz := s.heap.size)
  generalize hAe : va_A [(xHan, .inr (3, [.int 0, .int 0, .int 0, .ref hH, .ref hR, .ref hT, .ref hM]))] s.heap.size = A at hD ⊢
  have hA : ∀ q : Nat, s.heap.size ≤ q → A q := fun q h => by rw [← hAe]; exact Or.inr h
  have hS : va_S A s.heap s.heap [] := va_S.rf
  have hP : va_P (dC, dI) vwCl [(xHan, .inr (3, [.int 0, .int 0, .int 0, .ref hH, .ref hR, .ref hT, .ref hM]))] s.heap := hP
  have hl := lv_entry ([.ref xHan, .ref xSum, .int 0, .int p1]) (n := 12) (Nat.le_of_ble_eq_true rfl)
  rw [lg_entry_eq]
  generalize (lg_sl ([.ref xHan, .ref xSum, .int 0, .int p1]) ++ List.replicate (12 - (lg_sl ([.ref xHan, .ref xSum, .int 0, .int p1])).length) Slot.unset).toArray = ls at hl ⊢
  have hl : lv_has ls 12 [(0, .ref xHan), (1, .ref xSum), (2, .int 0), (3, .int p1)] := hl
  refine lv_iload_n hx hb dX3_minor_0 rfl (lv_at hl 2 rfl) ?_
  refine lv_aload_n hx hb dX3_minor_1 rfl (lv_at hl 0 rfl) ?_
  refine va_get (D := (dC, dI)) (ci := 3) (v := .int 0) (C := RX3) (T := TX3) (N := 7) hx hb hts hiX3 hown hK hP 0 rfl rfl 0 (by decide) (hts (.fieldLink RX3 25 "ScissorsTable$Hang" "rank" "I") (by decide +kernel)) (fun _ h9 => h9) rfl dX3_minor_2 ?_
  refine lv_icmp_ge (tgt := 14) hx hb dX3_minor_5 (by decide) (fun _ => ?_) (fun c => absurd (by decide) c)
  refine lv_lconst (v := 1) hx hb dX3_minor_14 (by decide) ?_
  have hP9 := hP.sub (ws' := [(xHan, .inr (3, [.int 0, .int 0, .int 0, .ref hH, .ref hR, .ref hT, .ref hM]))]) [0] rfl
  have hD9 := hD.sub (ws' := [(xHan, .inr (3, [.int 0, .int 0, .int 0, .ref hH, .ref hR, .ref hT, .ref hM]))]) [0] (by decide) rfl
  refine W.widen (k := 0) (n := 0) (Nat.le_of_ble_eq_true rfl) (Nat.le_of_ble_eq_true rfl) ?_
  exact W.lret (v := 1) hx hb hr (fun t ht hW => ⟨⟨1, (), rfl, rfl, by rw [ht]; exact hP9, va_K.moved hW.alike hK, hD9⟩, hS.F ht⟩) hS.2.2 dX3_minor_15
set_option maxHeartbeats 4000000 in
set_option maxRecDepth 100000 in
theorem c_X3_firstOpenRow_00 (l : Launch) (dC : Nat → ClassId) (dI : Nat → Nat → Nat) (cB cI cJ : ClassId) (sz : Nat) (xSum sM sP sA xHan : Nat) : Met l yX3_firstOpenRow wsX3_firstOpenRow ({ frames := 1, cells := 0, slots := 0, locals := 24 }) (va_Pc [.ref xHan, .ref xSum] (fun U => U.heap.size = sz ∧ va_P (dC, dI) vwCl [(xSum, .inr (8, [.ref sM, .ref sP, .ref sA, .int 0]))] U.heap ∧ va_K (dC, dI) vwCl [(cB, .byte), (cI, .int), (cJ, .long)] U ∧ va_D (fun _ => True) [(xSum, .inr (8, [.ref sM, .ref sP, .ref sA, .int 0]))])) (va_Qi (fun (r : Int32) (_ : Unit) => r = (-1)) (fun _ t => va_P (dC, dI) vwCl [(xSum, .inr (8, [.ref sM, .ref sP, .ref sA, .int 0]))] t.heap ∧ va_K (dC, dI) vwCl [(cB, .byte), (cI, .int), (cJ, .long)] t ∧ va_D (va_A [(xSum, .inr (8, [.ref sM, .ref sP, .ref sA, .int 0]))] sz) [(xSum, .inr (8, [.ref sM, .ref sP, .ref sA, .int 0]))]) (va_A [(xSum, .inr (8, [.ref sM, .ref sP, .ref sA, .int 0]))] sz)) 0 0 (va_A [(xSum, .inr (8, [.ref sM, .ref sP, .ref sA, .int 0]))] sz) := by
  refine Met.ofW (cc := cX3_firstOpenRow) (maxL := 6) (ret := (some .int)) (by decide) rfl ?_
  intro p e s m args below meth c s₁ B hml hv
  obtain ⟨rfl, hsz, hP, hK, hD0⟩ := hv
  have hx := B.exec
  have hb := B.bytes
  have hr := B.returns
  have hts := atoms_spec (ws := wsX3_firstOpenRow) B.pre
  have hown : s.vm.findClass RX3 = some m.cls := findClass_of_methodNamed B.named
  have hlocks := B.notSynchronized
  have hiX8 : ∀ w ∈ u_ws RX8 TX8 4, w ∈ wsX3_firstOpenRow := by decide +kernel
  subst hsz
  have hD := hD0.self (sz := s.heap.size)
  generalize hAe : va_A [(xSum, .inr (8, [.ref sM, .ref sP, .ref sA, .int 0]))] s.heap.size = A at hD ⊢
  have hA : ∀ q : Nat, s.heap.size ≤ q → A q := fun q h => by rw [← hAe]; exact Or.inr h
  have hS : va_S A s.heap s.heap [] := va_S.rf
  have hP : va_P (dC, dI) vwCl [(xSum, .inr (8, [.ref sM, .ref sP, .ref sA, .int 0]))] s.heap := hP
  have hl := lv_entry ([.ref xHan, .ref xSum]) (n := 6) (Nat.le_of_ble_eq_true rfl)
  rw [lg_entry_eq]
  generalize (lg_sl ([.ref xHan, .ref xSum]) ++ List.replicate (6 - (lg_sl ([.ref xHan, .ref xSum])).length) Slot.unset).toArray = ls at hl ⊢
  have hl : lv_has ls 6 [(0, .ref xHan), (1, .ref xSum)] := hl
  refine lv_iconst (v := 0) hx hb dX3_firstOpenRow_0 (by decide) ?_
  refine lv_istore_n (lv' := [(2, .int 0), (0, .ref xHan), (1, .ref xSum)]) hx hb dX3_firstOpenRow_1 rfl hl (by decide) rfl (fun ls hl => ?_)
  refine lv_iload_n hx hb dX3_firstOpenRow_2 rfl (lv_at hl 0 rfl) ?_
  refine lv_aload_n hx hb dX3_firstOpenRow_3 rfl (lv_at hl 2 rfl) ?_
  refine va_get (D := (dC, dI)) (ci := 8) (v := .int 0) (C := RX8) (T := TX8) (N := 4) hx hb hts hiX8 hown hK hP 0 rfl rfl 3 (by decide) (hts (.fieldLink RX3 53 "ScissorsTable$Sums" "size" "I") (by decide +kernel)) (fun _ h9 => h9) rfl dX3_firstOpenRow_4 ?_
  refine lv_icmp_ge (tgt := 68) hx hb dX3_firstOpenRow_7 (by decide) (fun _ => ?_) (fun c => absurd (by decide) c)
  refine lv_iconst (v := (-1)) hx hb dX3_firstOpenRow_68 (by decide) ?_
  have hP9 := hP.sub (ws' := [(xSum, .inr (8, [.ref sM, .ref sP, .ref sA, .int 0]))]) [0] rfl
  have hD9 := hD.sub (ws' := [(xSum, .inr (8, [.ref sM, .ref sP, .ref sA, .int 0]))]) [0] (by decide) rfl
  refine W.widen (k := 0) (n := 0) (Nat.le_of_ble_eq_true rfl) (Nat.le_of_ble_eq_true rfl) ?_
  exact W.iret (v := (-1)) hx hb hr (fun t ht hW => ⟨⟨(-1), (), rfl, rfl, by rw [ht]; exact hP9, va_K.moved hW.alike hK, hD9⟩, hS.F ht⟩) hS.2.2 dX3_firstOpenRow_69
set_option maxHeartbeats 4000000 in
set_option maxRecDepth 100000 in
theorem c_X3_next_t0 (l : Launch) (dC : Nat → ClassId) (dI : Nat → Nat → Nat) (cB cI cJ : ClassId) (sz : Nat) (xSum sM sP sA xHan hH hR hT hM : Nat) (p1 : Int32) (fh : Nat → Int32) (ft : Nat → Int64) : Met l yX3_next wsX3_next ({ frames := 4, cells := 0, slots := 0, locals := 95 }) (va_Pc [.ref xHan, .ref xSum, .int p1] (fun U => U.heap.size = sz ∧ va_P (dC, dI) vwCl [(xSum, .inr (8, [.ref sM, .ref sP, .ref sA, .int 0])), (xHan, .inr (3, [.int 0, .int 0, .int 0, .ref hH, .ref hR, .ref hT, .ref hM])), (hH, .inl (cI, 7, (.inl fh))), (hT, .inl (cJ, 7, (.inr (.inl ft)))), (hM, .inl (cJ, 6, (.inr (.inl (fun _ => 0)))))] U.heap ∧ va_K (dC, dI) vwCl [(cB, .byte), (cI, .int), (cJ, .long)] U ∧ va_D (fun _ => True) [(xSum, .inr (8, [.ref sM, .ref sP, .ref sA, .int 0])), (xHan, .inr (3, [.int 0, .int 0, .int 0, .ref hH, .ref hR, .ref hT, .ref hM])), (hH, .inl (cI, 7, (.inl fh))), (hT, .inl (cJ, 7, (.inr (.inl ft)))), (hM, .inl (cJ, 6, (.inr (.inl (fun _ => 0)))))] ∧ va_Nw (.methodLinkNest RX3 62 yX10_gcd "ScissorsTable") U)) (va_Qv (fun _ : Unit => True) (fun _ t => va_P (dC, dI) vwCl [(xHan, .inr (3, [.int 0, .int 1, .int 1, .ref hH, .ref hR, .ref hT, .ref hM])), (xSum, .inr (8, [.ref sM, .ref sP, .ref sA, .int 0])), (hH, .inl (cI, 7, (.inl (upd fh (0 : Int32).toNatClampNeg p1)))), (hT, .inl (cJ, 7, (.inr (.inl (vp_updL ft (0 : Int32).toNatClampNeg 1))))), (hM, .inl (cJ, 6, (.inr (.inl (vp_updL (fun _ => 0) (0 : Int32).toNatClampNeg 1)))))] t.heap ∧ va_K (dC, dI) vwCl [(cB, .byte), (cI, .int), (cJ, .long)] t ∧ va_D (va_A [(xSum, .inr (8, [.ref sM, .ref sP, .ref sA, .int 0])), (xHan, .inr (3, [.int 0, .int 0, .int 0, .ref hH, .ref hR, .ref hT, .ref hM])), (hH, .inl (cI, 7, (.inl fh))), (hT, .inl (cJ, 7, (.inr (.inl ft)))), (hM, .inl (cJ, 6, (.inr (.inl (fun _ => 0)))))] sz) [(xHan, .inr (3, [.int 0, .int 1, .int 1, .ref hH, .ref hR, .ref hT, .ref hM])), (xSum, .inr (8, [.ref sM, .ref sP, .ref sA, .int 0])), (hH, .inl (cI, 7, (.inl (upd fh (0 : Int32).toNatClampNeg p1)))), (hT, .inl (cJ, 7, (.inr (.inl (vp_updL ft (0 : Int32).toNatClampNeg 1))))), (hM, .inl (cJ, 6, (.inr (.inl (vp_updL (fun _ => 0) (0 : Int32).toNatClampNeg 1)))))]) (va_A [(xSum, .inr (8, [.ref sM, .ref sP, .ref sA, .int 0])), (xHan, .inr (3, [.int 0, .int 0, .int 0, .ref hH, .ref hR, .ref hT, .ref hM])), (hH, .inl (cI, 7, (.inl fh))), (hT, .inl (cJ, 7, (.inr (.inl ft)))), (hM, .inl (cJ, 6, (.inr (.inl (fun _ => 0)))))] sz)) 0 0 (va_A [(xSum, .inr (8, [.ref sM, .ref sP, .ref sA, .int 0])), (xHan, .inr (3, [.int 0, .int 0, .int 0, .ref hH, .ref hR, .ref hT, .ref hM])), (hH, .inl (cI, 7, (.inl fh))), (hT, .inl (cJ, 7, (.inr (.inl ft)))), (hM, .inl (cJ, 6, (.inr (.inl (fun _ => 0)))))] sz) := by
  refine Met.ofW (cc := cX3_next) (maxL := 4) (ret := none) (by decide) rfl ?_
  intro p e s m args below meth c s₁ B hml hv
  obtain ⟨rfl, hsz, hP, hK, hD0, hN0⟩ := hv
  have hx := B.exec
  have hb := B.bytes
  have hr := B.returns
  have hts := atoms_spec (ws := wsX3_next) B.pre
  have hown : s.vm.findClass RX3 = some m.cls := findClass_of_methodNamed B.named
  have hlocks := B.notSynchronized
  have hiX3 : ∀ w ∈ u_ws RX3 TX3 7, w ∈ wsX3_next := by decide +kernel
  subst hsz
  have hD := hD0.self (sz := s.heap.size)
  generalize hAe : va_A [(xSum, .inr (8, [.ref sM, .ref sP, .ref sA, .int 0])), (xHan, .inr (3, [.int 0, .int 0, .int 0, .ref hH, .ref hR, .ref hT, .ref hM])), (hH, .inl (cI, 7, (.inl fh))), (hT, .inl (cJ, 7, (.inr (.inl ft)))), (hM, .inl (cJ, 6, (.inr (.inl (fun _ => 0)))))] s.heap.size = A at hD ⊢
  have hA : ∀ q : Nat, s.heap.size ≤ q → A q := fun q h => by rw [← hAe]; exact Or.inr h
  have hS : va_S A s.heap s.heap [] := va_S.rf
  have hP : va_P (dC, dI) vwCl [(xSum, .inr (8, [.ref sM, .ref sP, .ref sA, .int 0])), (xHan, .inr (3, [.int 0, .int 0, .int 0, .ref hH, .ref hR, .ref hT, .ref hM])), (hH, .inl (cI, 7, (.inl fh))), (hT, .inl (cJ, 7, (.inr (.inl ft)))), (hM, .inl (cJ, 6, (.inr (.inl (fun _ => 0)))))] s.heap := hP
  have hl := lv_entry ([.ref xHan, .ref xSum, .int p1]) (n := 4) (Nat.le_of_ble_eq_true rfl)
  rw [lg_entry_eq]
  generalize (lg_sl ([.ref xHan, .ref xSum, .int p1]) ++ List.replicate (4 - (lg_sl ([.ref xHan, .ref xSum, .int p1])).length) Slot.unset).toArray = ls at hl ⊢
  have hl : lv_has ls 4 [(0, .ref xHan), (1, .ref xSum), (2, .int p1)] := hl
  refine lv_aload_n hx hb dX3_next_0 rfl (lv_at hl 0 rfl) ?_
  refine va_get (D := (dC, dI)) (ci := 3) (v := .int 0) (C := RX3) (T := TX3) (N := 7) hx hb hts hiX3 hown hK hP 1 rfl rfl 1 (by decide) (hts (.fieldLink RX3 29 "ScissorsTable$Hang" "taken" "I") (by decide +kernel)) (fun _ h9 => h9) rfl dX3_next_1 ?_
  refine lv_bipush (v := 6) hx hb dX3_next_4 (by decide) ?_
  refine lv_icmp_ge (tgt := 18) hx hb dX3_next_6 (by decide) (fun c => absurd c (by decide)) (fun _ => ?_)
  refine lv_aload_n hx hb dX3_next_9 rfl (lv_at hl 0 rfl) ?_
  refine va_get (D := (dC, dI)) (ci := 3) (v := .int 0) (C := RX3) (T := TX3) (N := 7) hx hb hts hiX3 hown hK hP 1 rfl rfl 0 (by decide) (hts (.fieldLink RX3 25 "ScissorsTable$Hang" "rank" "I") (by decide +kernel)) (fun _ h9 => h9) rfl dX3_next_10 ?_
  refine lv_bipush (v := 6) hx hb dX3_next_13 (by decide) ?_
  refine lv_icmp_lt (tgt := 19) hx hb dX3_next_15 (by decide) (fun _ => ?_) (fun c => absurd (by decide) c)
  refine lv_aload_n hx hb dX3_next_19 rfl (lv_at hl 0 rfl) ?_
  refine va_get (D := (dC, dI)) (ci := 3) (v := .ref hH) (C := RX3) (T := TX3) (N := 7) hx hb hts hiX3 hown hK hP 1 rfl rfl 3 (by decide) (hts (.fieldLink RX3 9 "ScissorsTable$Hang" "held" "[I") (by decide +kernel)) (fun _ h9 => h9) rfl dX3_next_20 ?_
  refine lv_aload_n hx hb dX3_next_23 rfl (lv_at hl 0 rfl) ?_
  refine va_get (D := (dC, dI)) (ci := 3) (v := .int 0) (C := RX3) (T := TX3) (N := 7) hx hb hts hiX3 hown hK hP 1 rfl rfl 0 (by decide) (hts (.fieldLink RX3 25 "ScissorsTable$Hang" "rank" "I") (by decide +kernel)) (fun _ h9 => h9) rfl dX3_next_24 ?_
  refine lv_iload_n hx hb dX3_next_27 rfl (lv_at hl 2 rfl) ?_
  refine va_iast hx hb hK hP hD hS 2 1 rfl rfl (by show ¬ (_ ∨ _); decide) dX3_next_28 (fun H locs hP hD hS => ?_)
  have hP : va_P (dC, dI) vwCl [(xSum, .inr (8, [.ref sM, .ref sP, .ref sA, .int 0])), (xHan, .inr (3, [.int 0, .int 0, .int 0, .ref hH, .ref hR, .ref hT, .ref hM])), (hH, .inl (cI, 7, (.inl (upd fh (0 : Int32).toNatClampNeg p1)))), (hT, .inl (cJ, 7, (.inr (.inl ft)))), (hM, .inl (cJ, 6, (.inr (.inl (fun _ => 0)))))] H := hP
  have hD : va_D A [(xSum, .inr (8, [.ref sM, .ref sP, .ref sA, .int 0])), (xHan, .inr (3, [.int 0, .int 0, .int 0, .ref hH, .ref hR, .ref hT, .ref hM])), (hH, .inl (cI, 7, (.inl (upd fh (0 : Int32).toNatClampNeg p1)))), (hT, .inl (cJ, 7, (.inr (.inl ft)))), (hM, .inl (cJ, 6, (.inr (.inl (fun _ => 0)))))] := hD
  refine lv_iconst (v := 0) hx hb dX3_next_29 (by decide) ?_
  refine lv_istore_n (lv' := [(3, .int 0), (0, .ref xHan), (1, .ref xSum), (2, .int p1)]) hx hb dX3_next_30 rfl hl (by decide) rfl (fun ls hl => ?_)
  refine lv_iload_n hx hb dX3_next_31 rfl (lv_at hl 0 rfl) ?_
  refine lv_aload_n hx hb dX3_next_32 rfl (lv_at hl 1 rfl) ?_
  refine va_get (D := (dC, dI)) (ci := 3) (v := .int 0) (C := RX3) (T := TX3) (N := 7) hx hb hts hiX3 hown hK hP 1 rfl rfl 0 (by decide) (hts (.fieldLink RX3 25 "ScissorsTable$Hang" "rank" "I") (by decide +kernel)) (fun _ h9 => h9) rfl dX3_next_33 ?_
  refine lv_icmp_gt (tgt := 74) hx hb dX3_next_36 (by decide) (fun c => absurd c (by decide)) (fun _ => ?_)
  refine lv_aload_n hx hb dX3_next_39 rfl (lv_at hl 1 rfl) ?_
  refine va_get (D := (dC, dI)) (ci := 3) (v := .ref hT) (C := RX3) (T := TX3) (N := 7) hx hb hts hiX3 hown hK hP 1 rfl rfl 5 (by decide) (hts (.fieldLink RX3 18 "ScissorsTable$Hang" "trial" "[J") (by decide +kernel)) (fun _ h9 => h9) rfl dX3_next_40 ?_
  refine lv_iload_n hx hb dX3_next_43 rfl (lv_at hl 0 rfl) ?_
  refine lv_aload_n hx hb dX3_next_44 rfl (lv_at hl 1 rfl) ?_
  refine lv_aload_n hx hb dX3_next_45 rfl (lv_at hl 2 rfl) ?_
  refine lv_iconst (v := 0) hx hb dX3_next_46 (by decide) ?_
  refine lv_iconst (v := 1) hx hb dX3_next_47 (by decide) ?_
  refine lv_iload_n hx hb dX3_next_48 rfl (lv_at hl 0 rfl) ?_
  refine lv_ishl hx hb dX3_next_49 ?_
  refine lv_topi (fun x_1 ex_1 => ?_)
  obtain rfl : x_1 = 1 := ex_1.trans (by first | rfl | decide)
  have hPc := hP.sub (ws' := [(xHan, .inr (3, [.int 0, .int 0, .int 0, .ref hH, .ref hR, .ref hT, .ref hM]))]) [1] rfl
  have hDc := hD.sub (ws' := [(xHan, .inr (3, [.int 0, .int 0, .int 0, .ref hH, .ref hR, .ref hT, .ref hM]))]) [1] (by decide) rfl
  have hFc := va_free (wc := [(xHan, .inr (3, [.int 0, .int 0, .int 0, .ref hH, .ref hR, .ref hT, .ref hM]))]) hD hS hA [1] rfl
  refine va_calll (va_runV (As := [.ref xSum, .int 0, .int 1]) (rest := [.int 0, .ref hT]) ⟨hx, hb, hml, hown, hts⟩ (c_X3_minor_00 l dC dI cB cI cJ H.size xHan hH hR hT hM xSum 1) (cwV 3 hts gX3_next_X3_minor rfl rfl rfl (by decide +kernel) ⟨Nat.le_of_ble_eq_true rfl, Nat.le_of_ble_eq_true rfl⟩) ⟨fun a U g mk q => by obtain ⟨q0, q1, qP, qK, qD⟩ := q; exact ⟨q0, q1, qP, va_K.moved (u := U) (U := U.calling g mk a) (Vm.Alike.refl U.vm) qK, qD⟩, va_recv hK hP (ci := 3) (q0 := 1) rfl rfl, fun U hU hW => ⟨rfl, by rw [hU], by rw [hU]; exact hPc, va_K.moved hW.alike hK, hDc.weaken (fun _ _ _ _ => trivial)⟩⟩ rfl rfl hl.1 rfl (lv_room (Nat.le_of_ble_eq_true rfl)) dX3_next_50 ⟨Nat.le_of_ble_eq_true rfl, Nat.le_of_ble_eq_true rfl⟩) hS (fun q _ h => hFc q h) hFc (fun r_2 u t H1 locs ht hvm hw hB hz1 hk1 hS => ?_)
  obtain ⟨hP1, hK1, hD1⟩ := hB
  rw [ht] at hP1
  obtain ⟨hP, hD⟩ := va_join (wr := [(xSum, .inr (8, [.ref sM, .ref sP, .ref sA, .int 0])), (hH, .inl (cI, 7, (.inl (upd fh (0 : Int32).toNatClampNeg p1)))), (hT, .inl (cJ, 7, (.inr (.inl ft)))), (hM, .inl (cJ, 6, (.inr (.inl (fun _ => 0)))))]) (w1 := [(xHan, .inr (3, [.int 0, .int 0, .int 0, .ref hH, .ref hR, .ref hT, .ref hM]))]) hP hD [1] [0, 2, 3, 4] rfl rfl (by decide) (by decide) hk1 hFc hP1 hD1
  generalize H1 = H at hP hS ⊢
  have hP : va_P (dC, dI) vwCl [(xSum, .inr (8, [.ref sM, .ref sP, .ref sA, .int 0])), (hH, .inl (cI, 7, (.inl (upd fh (0 : Int32).toNatClampNeg p1)))), (hT, .inl (cJ, 7, (.inr (.inl ft)))), (hM, .inl (cJ, 6, (.inr (.inl (fun _ => 0))))), (xHan, .inr (3, [.int 0, .int 0, .int 0, .ref hH, .ref hR, .ref hT, .ref hM]))] H := hP
  have hD : va_D A [(xSum, .inr (8, [.ref sM, .ref sP, .ref sA, .int 0])), (hH, .inl (cI, 7, (.inl (upd fh (0 : Int32).toNatClampNeg p1)))), (hT, .inl (cJ, 7, (.inr (.inl ft)))), (hM, .inl (cJ, 6, (.inr (.inl (fun _ => 0))))), (xHan, .inr (3, [.int 0, .int 0, .int 0, .ref hH, .ref hR, .ref hT, .ref hM]))] := hD
  have hr_2 := hw
  obtain rfl : r_2 = 1 := hr_2
  refine lv_iload_n hx hb dX3_next_53 rfl (lv_at hl 0 rfl) ?_
  refine lv_iconst (v := 1) hx hb dX3_next_54 (by decide) ?_
  refine lv_iand hx hb dX3_next_55 ?_
  refine lv_topi (fun x_3 ex_3 => ?_)
  obtain rfl : x_3 = 0 := ex_3.trans (by first | rfl | decide)
  refine lv_iconst (v := 1) hx hb dX3_next_56 (by decide) ?_
  refine lv_icmp_ne (tgt := 64) hx hb dX3_next_57 (by decide) (fun _ => ?_) (fun c => absurd c (by decide))
  refine lv_iconst (v := 1) hx hb dX3_next_64 (by decide) ?_
  refine lv_i2l (v := 1) hx hb dX3_next_65 (by decide) ?_
  refine lv_lmul hx hb dX3_next_66 ?_
  refine lv_topl (fun x_4 ex_4 => ?_)
  obtain rfl : x_4 = 1 := ex_4.trans (by first | rfl | decide)
  refine va_last hx hb hK hP hD hS 2 2 rfl rfl (by show ¬ (_ ∨ _); decide) dX3_next_67 (fun H locs hP hD hS => ?_)
  have hP : va_P (dC, dI) vwCl [(xSum, .inr (8, [.ref sM, .ref sP, .ref sA, .int 0])), (hH, .inl (cI, 7, (.inl (upd fh (0 : Int32).toNatClampNeg p1)))), (hT, .inl (cJ, 7, (.inr (.inl (vp_updL ft (0 : Int32).toNatClampNeg 1))))), (hM, .inl (cJ, 6, (.inr (.inl (fun _ => 0))))), (xHan, .inr (3, [.int 0, .int 0, .int 0, .ref hH, .ref hR, .ref hT, .ref hM]))] H := hP
  have hD : va_D A [(xSum, .inr (8, [.ref sM, .ref sP, .ref sA, .int 0])), (hH, .inl (cI, 7, (.inl (upd fh (0 : Int32).toNatClampNeg p1)))), (hT, .inl (cJ, 7, (.inr (.inl (vp_updL ft (0 : Int32).toNatClampNeg 1))))), (hM, .inl (cJ, 6, (.inr (.inl (fun _ => 0))))), (xHan, .inr (3, [.int 0, .int 0, .int 0, .ref hH, .ref hR, .ref hT, .ref hM]))] := hD
  refine lv_iinc (v := 1) (lv' := [(3, .int 1), (0, .ref xHan), (1, .ref xSum), (2, .int p1)]) hx hb dX3_next_68 hl (k := 0) rfl (by decide) (by decide) rfl (fun ls hl => ?_)
  refine lv_goto (tgt := 31) hx hb dX3_next_71 (by decide) ?_
  refine lv_iload_n hx hb dX3_next_31 rfl (lv_at hl 0 rfl) ?_
  refine lv_aload_n hx hb dX3_next_32 rfl (lv_at hl 1 rfl) ?_
  refine va_get (D := (dC, dI)) (ci := 3) (v := .int 0) (C := RX3) (T := TX3) (N := 7) hx hb hts hiX3 hown hK hP 4 rfl rfl 0 (by decide) (hts (.fieldLink RX3 25 "ScissorsTable$Hang" "rank" "I") (by decide +kernel)) (fun _ h9 => h9) rfl dX3_next_33 ?_
  refine lv_icmp_gt (tgt := 74) hx hb dX3_next_36 (by decide) (fun _ => ?_) (fun c => absurd (by decide) c)
  refine lv_aload_n hx hb dX3_next_74 rfl (lv_at hl 1 rfl) ?_
  refine lv_aload_n hx hb dX3_next_75 rfl (lv_at hl 2 rfl) ?_
  have hPc := hP.sub (ws' := [(xSum, .inr (8, [.ref sM, .ref sP, .ref sA, .int 0]))]) [0] rfl
  have hDc := hD.sub (ws' := [(xSum, .inr (8, [.ref sM, .ref sP, .ref sA, .int 0]))]) [0] (by decide) rfl
  have hFc := va_free (wc := [(xSum, .inr (8, [.ref sM, .ref sP, .ref sA, .int 0]))]) hD hS hA [0] rfl
  refine va_calli (va_runV (As := [.ref xSum]) (rest := []) ⟨hx, hb, hml, hown, hts⟩ (c_X3_firstOpenRow_00 l dC dI cB cI cJ H.size xSum sM sP sA xHan) (cwV 1 hts gX3_next_X3_firstOpenRow rfl rfl rfl (by decide +kernel) ⟨Nat.le_of_ble_eq_true rfl, Nat.le_of_ble_eq_true rfl⟩) ⟨fun a U g mk q => by obtain ⟨q0, q1, qP, qK, qD⟩ := q; exact ⟨q0, q1, qP, va_K.moved (u := U) (U := U.calling g mk a) (Vm.Alike.refl U.vm) qK, qD⟩, va_recv hK hP (ci := 3) (q0 := 4) rfl rfl, fun U hU hW => ⟨rfl, by rw [hU], by rw [hU]; exact hPc, va_K.moved hW.alike hK, hDc.weaken (fun _ _ _ _ => trivial)⟩⟩ rfl rfl hl.1 rfl (lv_room (Nat.le_of_ble_eq_true rfl)) dX3_next_76 ⟨Nat.le_of_ble_eq_true rfl, Nat.le_of_ble_eq_true rfl⟩) hS (fun q _ h => hFc q h) hFc (fun r_5 u t H1 locs ht hvm hw hB hz1 hk1 hS => ?_)
  obtain ⟨hP1, hK1, hD1⟩ := hB
  rw [ht] at hP1
  obtain ⟨hP, hD⟩ := va_join (wr := [(hH, .inl (cI, 7, (.inl (upd fh (0 : Int32).toNatClampNeg p1)))), (hT, .inl (cJ, 7, (.inr (.inl (vp_updL ft (0 : Int32).toNatClampNeg 1))))), (hM, .inl (cJ, 6, (.inr (.inl (fun _ => 0))))), (xHan, .inr (3, [.int 0, .int 0, .int 0, .ref hH, .ref hR, .ref hT, .ref hM]))]) (w1 := [(xSum, .inr (8, [.ref sM, .ref sP, .ref sA, .int 0]))]) hP hD [0] [1, 2, 3, 4] rfl rfl (by decide) (by decide) hk1 hFc hP1 hD1
  generalize H1 = H at hP hS ⊢
  have hP : va_P (dC, dI) vwCl [(hH, .inl (cI, 7, (.inl (upd fh (0 : Int32).toNatClampNeg p1)))), (hT, .inl (cJ, 7, (.inr (.inl (vp_updL ft (0 : Int32).toNatClampNeg 1))))), (hM, .inl (cJ, 6, (.inr (.inl (fun _ => 0))))), (xHan, .inr (3, [.int 0, .int 0, .int 0, .ref hH, .ref hR, .ref hT, .ref hM])), (xSum, .inr (8, [.ref sM, .ref sP, .ref sA, .int 0]))] H := hP
  have hD : va_D A [(hH, .inl (cI, 7, (.inl (upd fh (0 : Int32).toNatClampNeg p1)))), (hT, .inl (cJ, 7, (.inr (.inl (vp_updL ft (0 : Int32).toNatClampNeg 1))))), (hM, .inl (cJ, 6, (.inr (.inl (fun _ => 0))))), (xHan, .inr (3, [.int 0, .int 0, .int 0, .ref hH, .ref hR, .ref hT, .ref hM])), (xSum, .inr (8, [.ref sM, .ref sP, .ref sA, .int 0]))] := hD
  have hr_5 := hw
  obtain rfl : r_5 = (-1) := hr_5
  refine lv_istore_n (lv' := [(3, .int (-1)), (0, .ref xHan), (1, .ref xSum), (2, .int p1)]) hx hb dX3_next_79 rfl hl (by decide) rfl (fun ls hl => ?_)
  refine lv_iload_n hx hb dX3_next_80 rfl (lv_at hl 0 rfl) ?_
  refine lv_if_lt (tgt := 107) hx hb dX3_next_81 (by decide) (fun _ => ?_) (fun c => absurd (by decide) c)
  refine lv_aload_n hx hb dX3_next_107 rfl (lv_at hl 1 rfl) ?_
  refine va_get (D := (dC, dI)) (ci := 3) (v := .int 0) (C := RX3) (T := TX3) (N := 7) hx hb hts hiX3 hown hK hP 3 rfl rfl 2 (by decide) (hts (.fieldLink RX3 32 "ScissorsTable$Hang" "related" "Z") (by decide +kernel)) (fun _ h9 => h9) rfl dX3_next_108 ?_
  refine lv_if_ne (tgt := 123) hx hb dX3_next_111 (by decide) (fun c => absurd (by decide) c) (fun _ => ?_)
  refine lv_aload_n hx hb dX3_next_114 rfl (lv_at hl 1 rfl) ?_
  refine lv_iconst (v := 1) hx hb dX3_next_115 (by decide) ?_
  refine va_put (D := (dC, dI)) (ci := 3) (v := .int 1) (ty := .boolean) (C := RX3) (T := TX3) (N := 7) hx hb hts hiX3 tyX3 tyX3_ok nmX3 hown hK hP hD hS 3 rfl rfl 2 (by decide) (hts (.fieldLink RX3 32 "ScissorsTable$Hang" "related" "Z") (by decide +kernel)) (fun _ h9 => h9) rfl (by decide +kernel) rfl rfl (Nat.le_of_ble_eq_true rfl) dX3_next_116 (fun H locs hP hD hS => ?_)
  have hP : va_P (dC, dI) vwCl [(hH, .inl (cI, 7, (.inl (upd fh (0 : Int32).toNatClampNeg p1)))), (hT, .inl (cJ, 7, (.inr (.inl (vp_updL ft (0 : Int32).toNatClampNeg 1))))), (hM, .inl (cJ, 6, (.inr (.inl (fun _ => 0))))), (xHan, .inr (3, [.int 0, .int 0, .int 1, .ref hH, .ref hR, .ref hT, .ref hM])), (xSum, .inr (8, [.ref sM, .ref sP, .ref sA, .int 0]))] H := hP
  have hD : va_D A [(hH, .inl (cI, 7, (.inl (upd fh (0 : Int32).toNatClampNeg p1)))), (hT, .inl (cJ, 7, (.inr (.inl (vp_updL ft (0 : Int32).toNatClampNeg 1))))), (hM, .inl (cJ, 6, (.inr (.inl (fun _ => 0))))), (xHan, .inr (3, [.int 0, .int 0, .int 1, .ref hH, .ref hR, .ref hT, .ref hM])), (xSum, .inr (8, [.ref sM, .ref sP, .ref sA, .int 0]))] := hD
  refine lv_aload_n hx hb dX3_next_119 rfl (lv_at hl 1 rfl) ?_
  have hPc := hP.sub (ws' := [(xHan, .inr (3, [.int 0, .int 0, .int 1, .ref hH, .ref hR, .ref hT, .ref hM])), (hM, .inl (cJ, 6, (.inr (.inl (fun _ => 0))))), (hT, .inl (cJ, 7, (.inr (.inl (vp_updL ft (0 : Int32).toNatClampNeg 1)))))]) [3, 2, 1] rfl
  have hDc := hD.sub (ws' := [(xHan, .inr (3, [.int 0, .int 0, .int 1, .ref hH, .ref hR, .ref hT, .ref hM])), (hM, .inl (cJ, 6, (.inr (.inl (fun _ => 0))))), (hT, .inl (cJ, 7, (.inr (.inl (vp_updL ft (0 : Int32).toNatClampNeg 1)))))]) [3, 2, 1] (by decide) rfl
  have hFc := va_free (wc := [(xHan, .inr (3, [.int 0, .int 0, .int 1, .ref hH, .ref hR, .ref hT, .ref hM])), (hM, .inl (cJ, 6, (.inr (.inl (fun _ => 0))))), (hT, .inl (cJ, 7, (.inr (.inl (vp_updL ft (0 : Int32).toNatClampNeg 1)))))]) hD hS hA [3, 2, 1] rfl
  refine va_callv (va_runV (As := []) (rest := []) ⟨hx, hb, hml, hown, hts⟩ (c_X3_keepTimes l dC dI cB cI cJ H.size xHan hH hR hT hM _) (cwV 0 hts gX3_next_X3_keepTimes rfl rfl rfl (by decide +kernel) ⟨Nat.le_of_ble_eq_true rfl, Nat.le_of_ble_eq_true rfl⟩) ⟨fun a U g mk q => by obtain ⟨q0, q1, qP, qK, qD, qN0⟩ := q; exact ⟨q0, q1, qP, va_K.moved (u := U) (U := U.calling g mk a) (Vm.Alike.refl U.vm) qK, qD, va_Nw.same rfl rfl qN0⟩, va_recv hK hP (ci := 3) (q0 := 3) rfl rfl, fun U hU hW => ⟨rfl, by rw [hU], by rw [hU]; exact hPc, va_K.moved hW.alike hK, hDc.weaken (fun _ _ _ _ => trivial), va_Nw.warmM hW hN0⟩⟩ rfl rfl hl.1 rfl (lv_room (Nat.le_of_ble_eq_true rfl)) dX3_next_120 ⟨Nat.le_of_ble_eq_true rfl, Nat.le_of_ble_eq_true rfl⟩) hS (fun q _ h => hFc q h) hFc (fun u t H1 locs ht hvm hw hB hz1 hk1 hS => ?_)
  obtain ⟨hP1, hK1, hD1⟩ := hB
  rw [ht] at hP1
  obtain ⟨hP, hD⟩ := va_join (wr := [(hH, .inl (cI, 7, (.inl (upd fh (0 : Int32).toNatClampNeg p1)))), (xSum, .inr (8, [.ref sM, .ref sP, .ref sA, .int 0]))]) (w1 := [(xHan, .inr (3, [.int 0, .int 0, .int 1, .ref hH, .ref hR, .ref hT, .ref hM])), (hT, .inl (cJ, 7, (.inr (.inl (vp_updL ft (0 : Int32).toNatClampNeg 1))))), (hM, .inl (cJ, 6, (.inr (.inl (vp_updL (fun _ => 0) (0 : Int32).toNatClampNeg 1)))))]) hP hD [3, 2, 1] [0, 4] rfl rfl (by decide) (by decide) hk1 hFc hP1 hD1
  generalize H1 = H at hP hS ⊢
  have hP : va_P (dC, dI) vwCl [(hH, .inl (cI, 7, (.inl (upd fh (0 : Int32).toNatClampNeg p1)))), (xSum, .inr (8, [.ref sM, .ref sP, .ref sA, .int 0])), (xHan, .inr (3, [.int 0, .int 0, .int 1, .ref hH, .ref hR, .ref hT, .ref hM])), (hT, .inl (cJ, 7, (.inr (.inl (vp_updL ft (0 : Int32).toNatClampNeg 1))))), (hM, .inl (cJ, 6, (.inr (.inl (vp_updL (fun _ => 0) (0 : Int32).toNatClampNeg 1)))))] H := hP
  have hD : va_D A [(hH, .inl (cI, 7, (.inl (upd fh (0 : Int32).toNatClampNeg p1)))), (xSum, .inr (8, [.ref sM, .ref sP, .ref sA, .int 0])), (xHan, .inr (3, [.int 0, .int 0, .int 1, .ref hH, .ref hR, .ref hT, .ref hM])), (hT, .inl (cJ, 7, (.inr (.inl (vp_updL ft (0 : Int32).toNatClampNeg 1))))), (hM, .inl (cJ, 6, (.inr (.inl (vp_updL (fun _ => 0) (0 : Int32).toNatClampNeg 1)))))] := hD
  refine lv_aload_n hx hb dX3_next_123 rfl (lv_at hl 1 rfl) ?_
  refine lv_dup hx hb dX3_next_124 rfl ?_
  refine va_get (D := (dC, dI)) (ci := 3) (v := .int 0) (C := RX3) (T := TX3) (N := 7) hx hb hts hiX3 hown hK hP 2 rfl rfl 1 (by decide) (hts (.fieldLink RX3 29 "ScissorsTable$Hang" "taken" "I") (by decide +kernel)) (fun _ h9 => h9) rfl dX3_next_125 ?_
  refine lv_iconst (v := 1) hx hb dX3_next_128 (by decide) ?_
  refine lv_iadd hx hb dX3_next_129 ?_
  refine lv_topi (fun x_6 ex_6 => ?_)
  obtain rfl : x_6 = 1 := ex_6.trans (by first | rfl | decide)
  refine va_put (D := (dC, dI)) (ci := 3) (v := .int 1) (ty := .int) (C := RX3) (T := TX3) (N := 7) hx hb hts hiX3 tyX3 tyX3_ok nmX3 hown hK hP hD hS 2 rfl rfl 1 (by decide) (hts (.fieldLink RX3 29 "ScissorsTable$Hang" "taken" "I") (by decide +kernel)) (fun _ h9 => h9) rfl (by decide +kernel) rfl rfl (Nat.le_of_ble_eq_true rfl) dX3_next_130 (fun H locs hP hD hS => ?_)
  have hP : va_P (dC, dI) vwCl [(hH, .inl (cI, 7, (.inl (upd fh (0 : Int32).toNatClampNeg p1)))), (xSum, .inr (8, [.ref sM, .ref sP, .ref sA, .int 0])), (xHan, .inr (3, [.int 0, .int 1, .int 1, .ref hH, .ref hR, .ref hT, .ref hM])), (hT, .inl (cJ, 7, (.inr (.inl (vp_updL ft (0 : Int32).toNatClampNeg 1))))), (hM, .inl (cJ, 6, (.inr (.inl (vp_updL (fun _ => 0) (0 : Int32).toNatClampNeg 1)))))] H := hP
  have hD : va_D A [(hH, .inl (cI, 7, (.inl (upd fh (0 : Int32).toNatClampNeg p1)))), (xSum, .inr (8, [.ref sM, .ref sP, .ref sA, .int 0])), (xHan, .inr (3, [.int 0, .int 1, .int 1, .ref hH, .ref hR, .ref hT, .ref hM])), (hT, .inl (cJ, 7, (.inr (.inl (vp_updL ft (0 : Int32).toNatClampNeg 1))))), (hM, .inl (cJ, 6, (.inr (.inl (vp_updL (fun _ => 0) (0 : Int32).toNatClampNeg 1)))))] := hD
  have hP9 := hP.sub (ws' := [(xHan, .inr (3, [.int 0, .int 1, .int 1, .ref hH, .ref hR, .ref hT, .ref hM])), (xSum, .inr (8, [.ref sM, .ref sP, .ref sA, .int 0])), (hH, .inl (cI, 7, (.inl (upd fh (0 : Int32).toNatClampNeg p1)))), (hT, .inl (cJ, 7, (.inr (.inl (vp_updL ft (0 : Int32).toNatClampNeg 1))))), (hM, .inl (cJ, 6, (.inr (.inl (vp_updL (fun _ => 0) (0 : Int32).toNatClampNeg 1)))))]) [2, 1, 0, 3, 4] rfl
  have hD9 := hD.sub (ws' := [(xHan, .inr (3, [.int 0, .int 1, .int 1, .ref hH, .ref hR, .ref hT, .ref hM])), (xSum, .inr (8, [.ref sM, .ref sP, .ref sA, .int 0])), (hH, .inl (cI, 7, (.inl (upd fh (0 : Int32).toNatClampNeg p1)))), (hT, .inl (cJ, 7, (.inr (.inl (vp_updL ft (0 : Int32).toNatClampNeg 1))))), (hM, .inl (cJ, 6, (.inr (.inl (vp_updL (fun _ => 0) (0 : Int32).toNatClampNeg 1)))))]) [2, 1, 0, 3, 4] (by decide) rfl
  refine W.widen (k := 0) (n := 0) (Nat.le_of_ble_eq_true rfl) (Nat.le_of_ble_eq_true rfl) ?_
  exact W.vret hx hb hr (fun t ht hW => ⟨⟨(), rfl, trivial, by rw [ht]; exact hP9, va_K.moved hW.alike hK, hD9⟩, hS.F ht⟩) hS.2.2 dX3_next_133
set_option maxHeartbeats 4000000 in
set_option maxRecDepth 100000 in
theorem c_X3_minor_11 (l : Launch) (dC : Nat → ClassId) (dI : Nat → Nat → Nat) (cB cI cJ : ClassId) (sz : Nat) (xHan hH hR hT hM xSum : Nat) (p1 : Int32) : Met l yX3_minor wsX3_minor ({ frames := 1, cells := 0, slots := 0, locals := 24 }) (va_Pc [.ref xHan, .ref xSum, .int 0, .int p1] (fun U => U.heap.size = sz ∧ va_P (dC, dI) vwCl [(xHan, .inr (3, [.int 0, .int 1, .int 1, .ref hH, .ref hR, .ref hT, .ref hM]))] U.heap ∧ va_K (dC, dI) vwCl [(cB, .byte), (cI, .int), (cJ, .long)] U ∧ va_D (fun _ => True) [(xHan, .inr (3, [.int 0, .int 1, .int 1, .ref hH, .ref hR, .ref hT, .ref hM]))])) (va_Ql (fun (r : Int64) (_ : Unit) => r = 1) (fun _ t => va_P (dC, dI) vwCl [(xHan, .inr (3, [.int 0, .int 1, .int 1, .ref hH, .ref hR, .ref hT, .ref hM]))] t.heap ∧ va_K (dC, dI) vwCl [(cB, .byte), (cI, .int), (cJ, .long)] t ∧ va_D (va_A [(xHan, .inr (3, [.int 0, .int 1, .int 1, .ref hH, .ref hR, .ref hT, .ref hM]))] sz) [(xHan, .inr (3, [.int 0, .int 1, .int 1, .ref hH, .ref hR, .ref hT, .ref hM]))]) (va_A [(xHan, .inr (3, [.int 0, .int 1, .int 1, .ref hH, .ref hR, .ref hT, .ref hM]))] sz)) 0 0 (va_A [(xHan, .inr (3, [.int 0, .int 1, .int 1, .ref hH, .ref hR, .ref hT, .ref hM]))] sz) := by
  refine Met.ofW (cc := cX3_minor) (maxL := 12) (ret := (some .long)) (by decide) rfl ?_
  intro p e s m args below meth c s₁ B hml hv
  obtain ⟨rfl, hsz, hP, hK, hD0⟩ := hv
  have hx := B.exec
  have hb := B.bytes
  have hr := B.returns
  have hts := atoms_spec (ws := wsX3_minor) B.pre
  have hown : s.vm.findClass RX3 = some m.cls := findClass_of_methodNamed B.named
  have hlocks := B.notSynchronized
  have hiX3 : ∀ w ∈ u_ws RX3 TX3 7, w ∈ wsX3_minor := by decide +kernel
  subst hsz
  have hD := hD0.self (sz := s.heap.size)
  generalize hAe : va_A [(xHan, .inr (3, [.int 0, .int 1, .int 1, .ref hH, .ref hR, .ref hT, .ref hM]))] s.heap.size = A at hD ⊢
  have hA : ∀ q : Nat, s.heap.size ≤ q → A q := fun q h => by rw [← hAe]; exact Or.inr h
  have hS : va_S A s.heap s.heap [] := va_S.rf
  have hP : va_P (dC, dI) vwCl [(xHan, .inr (3, [.int 0, .int 1, .int 1, .ref hH, .ref hR, .ref hT, .ref hM]))] s.heap := hP
  have hl := lv_entry ([.ref xHan, .ref xSum, .int 0, .int p1]) (n := 12) (Nat.le_of_ble_eq_true rfl)
  rw [lg_entry_eq]
  generalize (lg_sl ([.ref xHan, .ref xSum, .int 0, .int p1]) ++ List.replicate (12 - (lg_sl ([.ref xHan, .ref xSum, .int 0, .int p1])).length) Slot.unset).toArray = ls at hl ⊢
  have hl : lv_has ls 12 [(0, .ref xHan), (1, .ref xSum), (2, .int 0), (3, .int p1)] := hl
  refine lv_iload_n hx hb dX3_minor_0 rfl (lv_at hl 2 rfl) ?_
  refine lv_aload_n hx hb dX3_minor_1 rfl (lv_at hl 0 rfl) ?_
  refine va_get (D := (dC, dI)) (ci := 3) (v := .int 0) (C := RX3) (T := TX3) (N := 7) hx hb hts hiX3 hown hK hP 0 rfl rfl 0 (by decide) (hts (.fieldLink RX3 25 "ScissorsTable$Hang" "rank" "I") (by decide +kernel)) (fun _ h9 => h9) rfl dX3_minor_2 ?_
  refine lv_icmp_ge (tgt := 14) hx hb dX3_minor_5 (by decide) (fun _ => ?_) (fun c => absurd (by decide) c)
  refine lv_lconst (v := 1) hx hb dX3_minor_14 (by decide) ?_
  have hP9 := hP.sub (ws' := [(xHan, .inr (3, [.int 0, .int 1, .int 1, .ref hH, .ref hR, .ref hT, .ref hM]))]) [0] rfl
  have hD9 := hD.sub (ws' := [(xHan, .inr (3, [.int 0, .int 1, .int 1, .ref hH, .ref hR, .ref hT, .ref hM]))]) [0] (by decide) rfl
  refine W.widen (k := 0) (n := 0) (Nat.le_of_ble_eq_true rfl) (Nat.le_of_ble_eq_true rfl) ?_
  exact W.lret (v := 1) hx hb hr (fun t ht hW => ⟨⟨1, (), rfl, rfl, by rw [ht]; exact hP9, va_K.moved hW.alike hK, hD9⟩, hS.F ht⟩) hS.2.2 dX3_minor_15
set_option maxHeartbeats 4000000 in
set_option maxRecDepth 100000 in
theorem c_X3_firstOpenRow_11 (l : Launch) (dC : Nat → ClassId) (dI : Nat → Nat → Nat) (cB cI cJ : ClassId) (sz : Nat) (xSum sM sP sA xHan : Nat) : Met l yX3_firstOpenRow wsX3_firstOpenRow ({ frames := 1, cells := 0, slots := 0, locals := 24 }) (va_Pc [.ref xHan, .ref xSum] (fun U => U.heap.size = sz ∧ va_P (dC, dI) vwCl [(xSum, .inr (8, [.ref sM, .ref sP, .ref sA, .int 0]))] U.heap ∧ va_K (dC, dI) vwCl [(cB, .byte), (cI, .int), (cJ, .long)] U ∧ va_D (fun _ => True) [(xSum, .inr (8, [.ref sM, .ref sP, .ref sA, .int 0]))])) (va_Qi (fun (r : Int32) (_ : Unit) => r = (-1)) (fun _ t => va_P (dC, dI) vwCl [(xSum, .inr (8, [.ref sM, .ref sP, .ref sA, .int 0]))] t.heap ∧ va_K (dC, dI) vwCl [(cB, .byte), (cI, .int), (cJ, .long)] t ∧ va_D (va_A [(xSum, .inr (8, [.ref sM, .ref sP, .ref sA, .int 0]))] sz) [(xSum, .inr (8, [.ref sM, .ref sP, .ref sA, .int 0]))]) (va_A [(xSum, .inr (8, [.ref sM, .ref sP, .ref sA, .int 0]))] sz)) 0 0 (va_A [(xSum, .inr (8, [.ref sM, .ref sP, .ref sA, .int 0]))] sz) := by
  refine Met.ofW (cc := cX3_firstOpenRow) (maxL := 6) (ret := (some .int)) (by decide) rfl ?_
  intro p e s m args below meth c s₁ B hml hv
  obtain ⟨rfl, hsz, hP, hK, hD0⟩ := hv
  have hx := B.exec
  have hb := B.bytes
  have hr := B.returns
  have hts := atoms_spec (ws := wsX3_firstOpenRow) B.pre
  have hown : s.vm.findClass RX3 = some m.cls := findClass_of_methodNamed B.named
  have hlocks := B.notSynchronized
  have hiX8 : ∀ w ∈ u_ws RX8 TX8 4, w ∈ wsX3_firstOpenRow := by decide +kernel
  subst hsz
  have hD := hD0.self (sz := s.heap.size)
  generalize hAe : va_A [(xSum, .inr (8, [.ref sM, .ref sP, .ref sA, .int 0]))] s.heap.size = A at hD ⊢
  have hA : ∀ q : Nat, s.heap.size ≤ q → A q := fun q h => by rw [← hAe]; exact Or.inr h
  have hS : va_S A s.heap s.heap [] := va_S.rf
  have hP : va_P (dC, dI) vwCl [(xSum, .inr (8, [.ref sM, .ref sP, .ref sA, .int 0]))] s.heap := hP
  have hl := lv_entry ([.ref xHan, .ref xSum]) (n := 6) (Nat.le_of_ble_eq_true rfl)
  rw [lg_entry_eq]
  generalize (lg_sl ([.ref xHan, .ref xSum]) ++ List.replicate (6 - (lg_sl ([.ref xHan, .ref xSum])).length) Slot.unset).toArray = ls at hl ⊢
  have hl : lv_has ls 6 [(0, .ref xHan), (1, .ref xSum)] := hl
  refine lv_iconst (v := 0) hx hb dX3_firstOpenRow_0 (by decide) ?_
  refine lv_istore_n (lv' := [(2, .int 0), (0, .ref xHan), (1, .ref xSum)]) hx hb dX3_firstOpenRow_1 rfl hl (by decide) rfl (fun ls hl => ?_)
  refine lv_iload_n hx hb dX3_firstOpenRow_2 rfl (lv_at hl 0 rfl) ?_
  refine lv_aload_n hx hb dX3_firstOpenRow_3 rfl (lv_at hl 2 rfl) ?_
  refine va_get (D := (dC, dI)) (ci := 8) (v := .int 0) (C := RX8) (T := TX8) (N := 4) hx hb hts hiX8 hown hK hP 0 rfl rfl 3 (by decide) (hts (.fieldLink RX3 53 "ScissorsTable$Sums" "size" "I") (by decide +kernel)) (fun _ h9 => h9) rfl dX3_firstOpenRow_4 ?_
  refine lv_icmp_ge (tgt := 68) hx hb dX3_firstOpenRow_7 (by decide) (fun _ => ?_) (fun c => absurd (by decide) c)
  refine lv_iconst (v := (-1)) hx hb dX3_firstOpenRow_68 (by decide) ?_
  have hP9 := hP.sub (ws' := [(xSum, .inr (8, [.ref sM, .ref sP, .ref sA, .int 0]))]) [0] rfl
  have hD9 := hD.sub (ws' := [(xSum, .inr (8, [.ref sM, .ref sP, .ref sA, .int 0]))]) [0] (by decide) rfl
  refine W.widen (k := 0) (n := 0) (Nat.le_of_ble_eq_true rfl) (Nat.le_of_ble_eq_true rfl) ?_
  exact W.iret (v := (-1)) hx hb hr (fun t ht hW => ⟨⟨(-1), (), rfl, rfl, by rw [ht]; exact hP9, va_K.moved hW.alike hK, hD9⟩, hS.F ht⟩) hS.2.2 dX3_firstOpenRow_69
set_option maxHeartbeats 4000000 in
set_option maxRecDepth 100000 in
theorem c_X3_next_t1 (l : Launch) (dC : Nat → ClassId) (dI : Nat → Nat → Nat) (cB cI cJ : ClassId) (sz : Nat) (xSum sM sP sA xHan hH hR hT hM : Nat) (p1 : Int32) (fh : Nat → Int32) (ft : Nat → Int64) : Met l yX3_next wsX3_next ({ frames := 2, cells := 0, slots := 0, locals := 55 }) (va_Pc [.ref xHan, .ref xSum, .int p1] (fun U => U.heap.size = sz ∧ va_P (dC, dI) vwCl [(xSum, .inr (8, [.ref sM, .ref sP, .ref sA, .int 0])), (xHan, .inr (3, [.int 0, .int 1, .int 1, .ref hH, .ref hR, .ref hT, .ref hM])), (hH, .inl (cI, 7, (.inl fh))), (hT, .inl (cJ, 7, (.inr (.inl ft))))] U.heap ∧ va_K (dC, dI) vwCl [(cB, .byte), (cI, .int), (cJ, .long)] U ∧ va_D (fun _ => True) [(xSum, .inr (8, [.ref sM, .ref sP, .ref sA, .int 0])), (xHan, .inr (3, [.int 0, .int 1, .int 1, .ref hH, .ref hR, .ref hT, .ref hM])), (hH, .inl (cI, 7, (.inl fh))), (hT, .inl (cJ, 7, (.inr (.inl ft))))])) (va_Qv (fun _ : Unit => True) (fun _ t => va_P (dC, dI) vwCl [(xHan, .inr (3, [.int 0, .int 2, .int 1, .ref hH, .ref hR, .ref hT, .ref hM])), (xSum, .inr (8, [.ref sM, .ref sP, .ref sA, .int 0])), (hH, .inl (cI, 7, (.inl (upd fh (0 : Int32).toNatClampNeg p1)))), (hT, .inl (cJ, 7, (.inr (.inl (vp_updL ft (0 : Int32).toNatClampNeg 1)))))] t.heap ∧ va_K (dC, dI) vwCl [(cB, .byte), (cI, .int), (cJ, .long)] t ∧ va_D (va_A [(xSum, .inr (8, [.ref sM, .ref sP, .ref sA, .int 0])), (xHan, .inr (3, [.int 0, .int 1, .int 1, .ref hH, .ref hR, .ref hT, .ref hM])), (hH, .inl (cI, 7, (.inl fh))), (hT, .inl (cJ, 7, (.inr (.inl ft))))] sz) [(xHan, .inr (3, [.int 0, .int 2, .int 1, .ref hH, .ref hR, .ref hT, .ref hM])), (xSum, .inr (8, [.ref sM, .ref sP, .ref sA, .int 0])), (hH, .inl (cI, 7, (.inl (upd fh (0 : Int32).toNatClampNeg p1)))), (hT, .inl (cJ, 7, (.inr (.inl (vp_updL ft (0 : Int32).toNatClampNeg 1)))))]) (va_A [(xSum, .inr (8, [.ref sM, .ref sP, .ref sA, .int 0])), (xHan, .inr (3, [.int 0, .int 1, .int 1, .ref hH, .ref hR, .ref hT, .ref hM])), (hH, .inl (cI, 7, (.inl fh))), (hT, .inl (cJ, 7, (.inr (.inl ft))))] sz)) 0 0 (va_A [(xSum, .inr (8, [.ref sM, .ref sP, .ref sA, .int 0])), (xHan, .inr (3, [.int 0, .int 1, .int 1, .ref hH, .ref hR, .ref hT, .ref hM])), (hH, .inl (cI, 7, (.inl fh))), (hT, .inl (cJ, 7, (.inr (.inl ft))))] sz) := by
  refine Met.ofW (cc := cX3_next) (maxL := 4) (ret := none) (by decide) rfl ?_
  intro p e s m args below meth c s₁ B hml hv
  obtain ⟨rfl, hsz, hP, hK, hD0⟩ := hv
  have hx := B.exec
  have hb := B.bytes
  have hr := B.returns
  have hts := atoms_spec (ws := wsX3_next) B.pre
  have hown : s.vm.findClass RX3 = some m.cls := findClass_of_methodNamed B.named
  have hlocks := B.notSynchronized
  have hiX3 : ∀ w ∈ u_ws RX3 TX3 7, w ∈ wsX3_next := by decide +kernel
  subst hsz
  have hD := hD0.self (sz := s.heap.size)
  generalize hAe : va_A [(xSum, .inr (8, [.ref sM, .ref sP, .ref sA, .int 0])), (xHan, .inr (3, [.int 0, .int 1, .int 1, .ref hH, .ref hR, .ref hT, .ref hM])), (hH, .inl (cI, 7, (.inl fh))), (hT, .inl (cJ, 7, (.inr (.inl ft))))] s.heap.size = A at hD ⊢
  have hA : ∀ q : Nat, s.heap.size ≤ q → A q := fun q h => by rw [← hAe]; exact Or.inr h
  have hS : va_S A s.heap s.heap [] := va_S.rf
  have hP : va_P (dC, dI) vwCl [(xSum, .inr (8, [.ref sM, .ref sP, .ref sA, .int 0])), (xHan, .inr (3, [.int 0, .int 1, .int 1, .ref hH, .ref hR, .ref hT, .ref hM])), (hH, .inl (cI, 7, (.inl fh))), (hT, .inl (cJ, 7, (.inr (.inl ft))))] s.heap := hP
  have hl := lv_entry ([.ref xHan, .ref xSum, .int p1]) (n := 4) (Nat.le_of_ble_eq_true rfl)
  rw [lg_entry_eq]
  generalize (lg_sl ([.ref xHan, .ref xSum, .int p1]) ++ List.replicate (4 - (lg_sl ([.ref xHan, .ref xSum, .int p1])).length) Slot.unset).toArray = ls at hl ⊢
  have hl : lv_has ls 4 [(0, .ref xHan), (1, .ref xSum), (2, .int p1)] := hl
  refine lv_aload_n hx hb dX3_next_0 rfl (lv_at hl 0 rfl) ?_
  refine va_get (D := (dC, dI)) (ci := 3) (v := .int 1) (C := RX3) (T := TX3) (N := 7) hx hb hts hiX3 hown hK hP 1 rfl rfl 1 (by decide) (hts (.fieldLink RX3 29 "ScissorsTable$Hang" "taken" "I") (by decide +kernel)) (fun _ h9 => h9) rfl dX3_next_1 ?_
  refine lv_bipush (v := 6) hx hb dX3_next_4 (by decide) ?_
  refine lv_icmp_ge (tgt := 18) hx hb dX3_next_6 (by decide) (fun c => absurd c (by decide)) (fun _ => ?_)
  refine lv_aload_n hx hb dX3_next_9 rfl (lv_at hl 0 rfl) ?_
  refine va_get (D := (dC, dI)) (ci := 3) (v := .int 0) (C := RX3) (T := TX3) (N := 7) hx hb hts hiX3 hown hK hP 1 rfl rfl 0 (by decide) (hts (.fieldLink RX3 25 "ScissorsTable$Hang" "rank" "I") (by decide +kernel)) (fun _ h9 => h9) rfl dX3_next_10 ?_
  refine lv_bipush (v := 6) hx hb dX3_next_13 (by decide) ?_
  refine lv_icmp_lt (tgt := 19) hx hb dX3_next_15 (by decide) (fun _ => ?_) (fun c => absurd (by decide) c)
  refine lv_aload_n hx hb dX3_next_19 rfl (lv_at hl 0 rfl) ?_
  refine va_get (D := (dC, dI)) (ci := 3) (v := .ref hH) (C := RX3) (T := TX3) (N := 7) hx hb hts hiX3 hown hK hP 1 rfl rfl 3 (by decide) (hts (.fieldLink RX3 9 "ScissorsTable$Hang" "held" "[I") (by decide +kernel)) (fun _ h9 => h9) rfl dX3_next_20 ?_
  refine lv_aload_n hx hb dX3_next_23 rfl (lv_at hl 0 rfl) ?_
  refine va_get (D := (dC, dI)) (ci := 3) (v := .int 0) (C := RX3) (T := TX3) (N := 7) hx hb hts hiX3 hown hK hP 1 rfl rfl 0 (by decide) (hts (.fieldLink RX3 25 "ScissorsTable$Hang" "rank" "I") (by decide +kernel)) (fun _ h9 => h9) rfl dX3_next_24 ?_
  refine lv_iload_n hx hb dX3_next_27 rfl (lv_at hl 2 rfl) ?_
  refine va_iast hx hb hK hP hD hS 2 1 rfl rfl (by show ¬ (_ ∨ _); decide) dX3_next_28 (fun H locs hP hD hS => ?_)
  have hP : va_P (dC, dI) vwCl [(xSum, .inr (8, [.ref sM, .ref sP, .ref sA, .int 0])), (xHan, .inr (3, [.int 0, .int 1, .int 1, .ref hH, .ref hR, .ref hT, .ref hM])), (hH, .inl (cI, 7, (.inl (upd fh (0 : Int32).toNatClampNeg p1)))), (hT, .inl (cJ, 7, (.inr (.inl ft))))] H := hP
  have hD : va_D A [(xSum, .inr (8, [.ref sM, .ref sP, .ref sA, .int 0])), (xHan, .inr (3, [.int 0, .int 1, .int 1, .ref hH, .ref hR, .ref hT, .ref hM])), (hH, .inl (cI, 7, (.inl (upd fh (0 : Int32).toNatClampNeg p1)))), (hT, .inl (cJ, 7, (.inr (.inl ft))))] := hD
  refine lv_iconst (v := 0) hx hb dX3_next_29 (by decide) ?_
  refine lv_istore_n (lv' := [(3, .int 0), (0, .ref xHan), (1, .ref xSum), (2, .int p1)]) hx hb dX3_next_30 rfl hl (by decide) rfl (fun ls hl => ?_)
  refine lv_iload_n hx hb dX3_next_31 rfl (lv_at hl 0 rfl) ?_
  refine lv_aload_n hx hb dX3_next_32 rfl (lv_at hl 1 rfl) ?_
  refine va_get (D := (dC, dI)) (ci := 3) (v := .int 0) (C := RX3) (T := TX3) (N := 7) hx hb hts hiX3 hown hK hP 1 rfl rfl 0 (by decide) (hts (.fieldLink RX3 25 "ScissorsTable$Hang" "rank" "I") (by decide +kernel)) (fun _ h9 => h9) rfl dX3_next_33 ?_
  refine lv_icmp_gt (tgt := 74) hx hb dX3_next_36 (by decide) (fun c => absurd c (by decide)) (fun _ => ?_)
  refine lv_aload_n hx hb dX3_next_39 rfl (lv_at hl 1 rfl) ?_
  refine va_get (D := (dC, dI)) (ci := 3) (v := .ref hT) (C := RX3) (T := TX3) (N := 7) hx hb hts hiX3 hown hK hP 1 rfl rfl 5 (by decide) (hts (.fieldLink RX3 18 "ScissorsTable$Hang" "trial" "[J") (by decide +kernel)) (fun _ h9 => h9) rfl dX3_next_40 ?_
  refine lv_iload_n hx hb dX3_next_43 rfl (lv_at hl 0 rfl) ?_
  refine lv_aload_n hx hb dX3_next_44 rfl (lv_at hl 1 rfl) ?_
  refine lv_aload_n hx hb dX3_next_45 rfl (lv_at hl 2 rfl) ?_
  refine lv_iconst (v := 0) hx hb dX3_next_46 (by decide) ?_
  refine lv_iconst (v := 1) hx hb dX3_next_47 (by decide) ?_
  refine lv_iload_n hx hb dX3_next_48 rfl (lv_at hl 0 rfl) ?_
  refine lv_ishl hx hb dX3_next_49 ?_
  refine lv_topi (fun x_1 ex_1 => ?_)
  obtain rfl : x_1 = 1 := ex_1.trans (by first | rfl | decide)
  have hPc := hP.sub (ws' := [(xHan, .inr (3, [.int 0, .int 1, .int 1, .ref hH, .ref hR, .ref hT, .ref hM]))]) [1] rfl
  have hDc := hD.sub (ws' := [(xHan, .inr (3, [.int 0, .int 1, .int 1, .ref hH, .ref hR, .ref hT, .ref hM]))]) [1] (by decide) rfl
  have hFc := va_free (wc := [(xHan, .inr (3, [.int 0, .int 1, .int 1, .ref hH, .ref hR, .ref hT, .ref hM]))]) hD hS hA [1] rfl
  refine va_calll (va_runV (As := [.ref xSum, .int 0, .int 1]) (rest := [.int 0, .ref hT]) ⟨hx, hb, hml, hown, hts⟩ (c_X3_minor_11 l dC dI cB cI cJ H.size xHan hH hR hT hM xSum 1) (cwV 3 hts gX3_next_X3_minor rfl rfl rfl (by decide +kernel) ⟨Nat.le_of_ble_eq_true rfl, Nat.le_of_ble_eq_true rfl⟩) ⟨fun a U g mk q => by obtain ⟨q0, q1, qP, qK, qD⟩ := q; exact ⟨q0, q1, qP, va_K.moved (u := U) (U := U.calling g mk a) (Vm.Alike.refl U.vm) qK, qD⟩, va_recv hK hP (ci := 3) (q0 := 1) rfl rfl, fun U hU hW => ⟨rfl, by rw [hU], by rw [hU]; exact hPc, va_K.moved hW.alike hK, hDc.weaken (fun _ _ _ _ => trivial)⟩⟩ rfl rfl hl.1 rfl (lv_room (Nat.le_of_ble_eq_true rfl)) dX3_next_50 ⟨Nat.le_of_ble_eq_true rfl, Nat.le_of_ble_eq_true rfl⟩) hS (fun q _ h => hFc q h) hFc (fun r_2 u t H1 locs ht hvm hw hB hz1 hk1 hS => ?_)
  obtain ⟨hP1, hK1, hD1⟩ := hB
  rw [ht] at hP1
  obtain ⟨hP, hD⟩ := va_join (wr := [(xSum, .inr (8, [.ref sM, .ref sP, .ref sA, .int 0])), (hH, .inl (cI, 7, (.inl (upd fh (0 : Int32).toNatClampNeg p1)))), (hT, .inl (cJ, 7, (.inr (.inl ft))))]) (w1 := [(xHan, .inr (3, [.int 0, .int 1, .int 1, .ref hH, .ref hR, .ref hT, .ref hM]))]) hP hD [1] [0, 2, 3] rfl rfl (by decide) (by decide) hk1 hFc hP1 hD1
  generalize H1 = H at hP hS ⊢
  have hP : va_P (dC, dI) vwCl [(xSum, .inr (8, [.ref sM, .ref sP, .ref sA, .int 0])), (hH, .inl (cI, 7, (.inl (upd fh (0 : Int32).toNatClampNeg p1)))), (hT, .inl (cJ, 7, (.inr (.inl ft)))), (xHan, .inr (3, [.int 0, .int 1, .int 1, .ref hH, .ref hR, .ref hT, .ref hM]))] H := hP
  have hD : va_D A [(xSum, .inr (8, [.ref sM, .ref sP, .ref sA, .int 0])), (hH, .inl (cI, 7, (.inl (upd fh (0 : Int32).toNatClampNeg p1)))), (hT, .inl (cJ, 7, (.inr (.inl ft)))), (xHan, .inr (3, [.int 0, .int 1, .int 1, .ref hH, .ref hR, .ref hT, .ref hM]))] := hD
  have hr_2 := hw
  obtain rfl : r_2 = 1 := hr_2
  refine lv_iload_n hx hb dX3_next_53 rfl (lv_at hl 0 rfl) ?_
  refine lv_iconst (v := 1) hx hb dX3_next_54 (by decide) ?_
  refine lv_iand hx hb dX3_next_55 ?_
  refine lv_topi (fun x_3 ex_3 => ?_)
  obtain rfl : x_3 = 0 := ex_3.trans (by first | rfl | decide)
  refine lv_iconst (v := 1) hx hb dX3_next_56 (by decide) ?_
  refine lv_icmp_ne (tgt := 64) hx hb dX3_next_57 (by decide) (fun _ => ?_) (fun c => absurd c (by decide))
  refine lv_iconst (v := 1) hx hb dX3_next_64 (by decide) ?_
  refine lv_i2l (v := 1) hx hb dX3_next_65 (by decide) ?_
  refine lv_lmul hx hb dX3_next_66 ?_
  refine lv_topl (fun x_4 ex_4 => ?_)
  obtain rfl : x_4 = 1 := ex_4.trans (by first | rfl | decide)
  refine va_last hx hb hK hP hD hS 2 2 rfl rfl (by show ¬ (_ ∨ _); decide) dX3_next_67 (fun H locs hP hD hS => ?_)
  have hP : va_P (dC, dI) vwCl [(xSum, .inr (8, [.ref sM, .ref sP, .ref sA, .int 0])), (hH, .inl (cI, 7, (.inl (upd fh (0 : Int32).toNatClampNeg p1)))), (hT, .inl (cJ, 7, (.inr (.inl (vp_updL ft (0 : Int32).toNatClampNeg 1))))), (xHan, .inr (3, [.int 0, .int 1, .int 1, .ref hH, .ref hR, .ref hT, .ref hM]))] H := hP
  have hD : va_D A [(xSum, .inr (8, [.ref sM, .ref sP, .ref sA, .int 0])), (hH, .inl (cI, 7, (.inl (upd fh (0 : Int32).toNatClampNeg p1)))), (hT, .inl (cJ, 7, (.inr (.inl (vp_updL ft (0 : Int32).toNatClampNeg 1))))), (xHan, .inr (3, [.int 0, .int 1, .int 1, .ref hH, .ref hR, .ref hT, .ref hM]))] := hD
  refine lv_iinc (v := 1) (lv' := [(3, .int 1), (0, .ref xHan), (1, .ref xSum), (2, .int p1)]) hx hb dX3_next_68 hl (k := 0) rfl (by decide) (by decide) rfl (fun ls hl => ?_)
  refine lv_goto (tgt := 31) hx hb dX3_next_71 (by decide) ?_
  refine lv_iload_n hx hb dX3_next_31 rfl (lv_at hl 0 rfl) ?_
  refine lv_aload_n hx hb dX3_next_32 rfl (lv_at hl 1 rfl) ?_
  refine va_get (D := (dC, dI)) (ci := 3) (v := .int 0) (C := RX3) (T := TX3) (N := 7) hx hb hts hiX3 hown hK hP 3 rfl rfl 0 (by decide) (hts (.fieldLink RX3 25 "ScissorsTable$Hang" "rank" "I") (by decide +kernel)) (fun _ h9 => h9) rfl dX3_next_33 ?_
  refine lv_icmp_gt (tgt := 74) hx hb dX3_next_36 (by decide) (fun _ => ?_) (fun c => absurd (by decide) c)
  refine lv_aload_n hx hb dX3_next_74 rfl (lv_at hl 1 rfl) ?_
  refine lv_aload_n hx hb dX3_next_75 rfl (lv_at hl 2 rfl) ?_
  have hPc := hP.sub (ws' := [(xSum, .inr (8, [.ref sM, .ref sP, .ref sA, .int 0]))]) [0] rfl
  have hDc := hD.sub (ws' := [(xSum, .inr (8, [.ref sM, .ref sP, .ref sA, .int 0]))]) [0] (by decide) rfl
  have hFc := va_free (wc := [(xSum, .inr (8, [.ref sM, .ref sP, .ref sA, .int 0]))]) hD hS hA [0] rfl
  refine va_calli (va_runV (As := [.ref xSum]) (rest := []) ⟨hx, hb, hml, hown, hts⟩ (c_X3_firstOpenRow_11 l dC dI cB cI cJ H.size xSum sM sP sA xHan) (cwV 1 hts gX3_next_X3_firstOpenRow rfl rfl rfl (by decide +kernel) ⟨Nat.le_of_ble_eq_true rfl, Nat.le_of_ble_eq_true rfl⟩) ⟨fun a U g mk q => by obtain ⟨q0, q1, qP, qK, qD⟩ := q; exact ⟨q0, q1, qP, va_K.moved (u := U) (U := U.calling g mk a) (Vm.Alike.refl U.vm) qK, qD⟩, va_recv hK hP (ci := 3) (q0 := 3) rfl rfl, fun U hU hW => ⟨rfl, by rw [hU], by rw [hU]; exact hPc, va_K.moved hW.alike hK, hDc.weaken (fun _ _ _ _ => trivial)⟩⟩ rfl rfl hl.1 rfl (lv_room (Nat.le_of_ble_eq_true rfl)) dX3_next_76 ⟨Nat.le_of_ble_eq_true rfl, Nat.le_of_ble_eq_true rfl⟩) hS (fun q _ h => hFc q h) hFc (fun r_5 u t H1 locs ht hvm hw hB hz1 hk1 hS => ?_)
  obtain ⟨hP1, hK1, hD1⟩ := hB
  rw [ht] at hP1
  obtain ⟨hP, hD⟩ := va_join (wr := [(hH, .inl (cI, 7, (.inl (upd fh (0 : Int32).toNatClampNeg p1)))), (hT, .inl (cJ, 7, (.inr (.inl (vp_updL ft (0 : Int32).toNatClampNeg 1))))), (xHan, .inr (3, [.int 0, .int 1, .int 1, .ref hH, .ref hR, .ref hT, .ref hM]))]) (w1 := [(xSum, .inr (8, [.ref sM, .ref sP, .ref sA, .int 0]))]) hP hD [0] [1, 2, 3] rfl rfl (by decide) (by decide) hk1 hFc hP1 hD1
  generalize H1 = H at hP hS ⊢
  have hP : va_P (dC, dI) vwCl [(hH, .inl (cI, 7, (.inl (upd fh (0 : Int32).toNatClampNeg p1)))), (hT, .inl (cJ, 7, (.inr (.inl (vp_updL ft (0 : Int32).toNatClampNeg 1))))), (xHan, .inr (3, [.int 0, .int 1, .int 1, .ref hH, .ref hR, .ref hT, .ref hM])), (xSum, .inr (8, [.ref sM, .ref sP, .ref sA, .int 0]))] H := hP
  have hD : va_D A [(hH, .inl (cI, 7, (.inl (upd fh (0 : Int32).toNatClampNeg p1)))), (hT, .inl (cJ, 7, (.inr (.inl (vp_updL ft (0 : Int32).toNatClampNeg 1))))), (xHan, .inr (3, [.int 0, .int 1, .int 1, .ref hH, .ref hR, .ref hT, .ref hM])), (xSum, .inr (8, [.ref sM, .ref sP, .ref sA, .int 0]))] := hD
  have hr_5 := hw
  obtain rfl : r_5 = (-1) := hr_5
  refine lv_istore_n (lv' := [(3, .int (-1)), (0, .ref xHan), (1, .ref xSum), (2, .int p1)]) hx hb dX3_next_79 rfl hl (by decide) rfl (fun ls hl => ?_)
  refine lv_iload_n hx hb dX3_next_80 rfl (lv_at hl 0 rfl) ?_
  refine lv_if_lt (tgt := 107) hx hb dX3_next_81 (by decide) (fun _ => ?_) (fun c => absurd (by decide) c)
  refine lv_aload_n hx hb dX3_next_107 rfl (lv_at hl 1 rfl) ?_
  refine va_get (D := (dC, dI)) (ci := 3) (v := .int 1) (C := RX3) (T := TX3) (N := 7) hx hb hts hiX3 hown hK hP 2 rfl rfl 2 (by decide) (hts (.fieldLink RX3 32 "ScissorsTable$Hang" "related" "Z") (by decide +kernel)) (fun _ h9 => h9) rfl dX3_next_108 ?_
  refine lv_if_ne (tgt := 123) hx hb dX3_next_111 (by decide) (fun _ => ?_) (fun c => absurd c (by decide))
  refine lv_aload_n hx hb dX3_next_123 rfl (lv_at hl 1 rfl) ?_
  refine lv_dup hx hb dX3_next_124 rfl ?_
  refine va_get (D := (dC, dI)) (ci := 3) (v := .int 1) (C := RX3) (T := TX3) (N := 7) hx hb hts hiX3 hown hK hP 2 rfl rfl 1 (by decide) (hts (.fieldLink RX3 29 "ScissorsTable$Hang" "taken" "I") (by decide +kernel)) (fun _ h9 => h9) rfl dX3_next_125 ?_
  refine lv_iconst (v := 1) hx hb dX3_next_128 (by decide) ?_
  refine lv_iadd hx hb dX3_next_129 ?_
  refine lv_topi (fun x_6 ex_6 => ?_)
  obtain rfl : x_6 = 2 := ex_6.trans (by first | rfl | decide)
  refine va_put (D := (dC, dI)) (ci := 3) (v := .int 2) (ty := .int) (C := RX3) (T := TX3) (N := 7) hx hb hts hiX3 tyX3 tyX3_ok nmX3 hown hK hP hD hS 2 rfl rfl 1 (by decide) (hts (.fieldLink RX3 29 "ScissorsTable$Hang" "taken" "I") (by decide +kernel)) (fun _ h9 => h9) rfl (by decide +kernel) rfl rfl (Nat.le_of_ble_eq_true rfl) dX3_next_130 (fun H locs hP hD hS => ?_)
  have hP : va_P (dC, dI) vwCl [(hH, .inl (cI, 7, (.inl (upd fh (0 : Int32).toNatClampNeg p1)))), (hT, .inl (cJ, 7, (.inr (.inl (vp_updL ft (0 : Int32).toNatClampNeg 1))))), (xHan, .inr (3, [.int 0, .int 2, .int 1, .ref hH, .ref hR, .ref hT, .ref hM])), (xSum, .inr (8, [.ref sM, .ref sP, .ref sA, .int 0]))] H := hP
  have hD : va_D A [(hH, .inl (cI, 7, (.inl (upd fh (0 : Int32).toNatClampNeg p1)))), (hT, .inl (cJ, 7, (.inr (.inl (vp_updL ft (0 : Int32).toNatClampNeg 1))))), (xHan, .inr (3, [.int 0, .int 2, .int 1, .ref hH, .ref hR, .ref hT, .ref hM])), (xSum, .inr (8, [.ref sM, .ref sP, .ref sA, .int 0]))] := hD
  have hP9 := hP.sub (ws' := [(xHan, .inr (3, [.int 0, .int 2, .int 1, .ref hH, .ref hR, .ref hT, .ref hM])), (xSum, .inr (8, [.ref sM, .ref sP, .ref sA, .int 0])), (hH, .inl (cI, 7, (.inl (upd fh (0 : Int32).toNatClampNeg p1)))), (hT, .inl (cJ, 7, (.inr (.inl (vp_updL ft (0 : Int32).toNatClampNeg 1)))))]) [2, 3, 0, 1] rfl
  have hD9 := hD.sub (ws' := [(xHan, .inr (3, [.int 0, .int 2, .int 1, .ref hH, .ref hR, .ref hT, .ref hM])), (xSum, .inr (8, [.ref sM, .ref sP, .ref sA, .int 0])), (hH, .inl (cI, 7, (.inl (upd fh (0 : Int32).toNatClampNeg p1)))), (hT, .inl (cJ, 7, (.inr (.inl (vp_updL ft (0 : Int32).toNatClampNeg 1)))))]) [2, 3, 0, 1] (by decide) rfl
  refine W.widen (k := 0) (n := 0) (Nat.le_of_ble_eq_true rfl) (Nat.le_of_ble_eq_true rfl) ?_
  exact W.vret hx hb hr (fun t ht hW => ⟨⟨(), rfl, trivial, by rw [ht]; exact hP9, va_K.moved hW.alike hK, hD9⟩, hS.F ht⟩) hS.2.2 dX3_next_133
set_option maxHeartbeats 4000000 in
set_option maxRecDepth 100000 in
theorem c_X3_minor_21 (l : Launch) (dC : Nat → ClassId) (dI : Nat → Nat → Nat) (cB cI cJ : ClassId) (sz : Nat) (xHan hH hR hT hM xSum : Nat) (p1 : Int32) : Met l yX3_minor wsX3_minor ({ frames := 1, cells := 0, slots := 0, locals := 24 }) (va_Pc [.ref xHan, .ref xSum, .int 0, .int p1] (fun U => U.heap.size = sz ∧ va_P (dC, dI) vwCl [(xHan, .inr (3, [.int 0, .int 2, .int 1, .ref hH, .ref hR, .ref hT, .ref hM]))] U.heap ∧ va_K (dC, dI) vwCl [(cB, .byte), (cI, .int), (cJ, .long)] U ∧ va_D (fun _ => True) [(xHan, .inr (3, [.int 0, .int 2, .int 1, .ref hH, .ref hR, .ref hT, .ref hM]))])) (va_Ql (fun (r : Int64) (_ : Unit) => r = 1) (fun _ t => va_P (dC, dI) vwCl [(xHan, .inr (3, [.int 0, .int 2, .int 1, .ref hH, .ref hR, .ref hT, .ref hM]))] t.heap ∧ va_K (dC, dI) vwCl [(cB, .byte), (cI, .int), (cJ, .long)] t ∧ va_D (va_A [(xHan, .inr (3, [.int 0, .int 2, .int 1, .ref hH, .ref hR, .ref hT, .ref hM]))] sz) [(xHan, .inr (3, [.int 0, .int 2, .int 1, .ref hH, .ref hR, .ref hT, .ref hM]))]) (va_A [(xHan, .inr (3, [.int 0, .int 2, .int 1, .ref hH, .ref hR, .ref hT, .ref hM]))] sz)) 0 0 (va_A [(xHan, .inr (3, [.int 0, .int 2, .int 1, .ref hH, .ref hR, .ref hT, .ref hM]))] sz) := by
  refine Met.ofW (cc := cX3_minor) (maxL := 12) (ret := (some .long)) (by decide) rfl ?_
  intro p e s m args below meth c s₁ B hml hv
  obtain ⟨rfl, hsz, hP, hK, hD0⟩ := hv
  have hx := B.exec
  have hb := B.bytes
  have hr := B.returns
  have hts := atoms_spec (ws := wsX3_minor) B.pre
  have hown : s.vm.findClass RX3 = some m.cls := findClass_of_methodNamed B.named
  have hlocks := B.notSynchronized
  have hiX3 : ∀ w ∈ u_ws RX3 TX3 7, w ∈ wsX3_minor := by decide +kernel
  subst hsz
  have hD := hD0.self (sz := s.heap.size)
  generalize hAe : va_A [(xHan, .inr (3, [.int 0, .int 2, .int 1, .ref hH, .ref hR, .ref hT, .ref hM]))] s.heap.size = A at hD ⊢
  have hA : ∀ q : Nat, s.heap.size ≤ q → A q := fun q h => by rw [← hAe]; exact Or.inr h
  have hS : va_S A s.heap s.heap [] := va_S.rf
  have hP : va_P (dC, dI) vwCl [(xHan, .inr (3, [.int 0, .int 2, .int 1, .ref hH, .ref hR, .ref hT, .ref hM]))] s.heap := hP
  have hl := lv_entry ([.ref xHan, .ref xSum, .int 0, .int p1]) (n := 12) (Nat.le_of_ble_eq_true rfl)
  rw [lg_entry_eq]
  generalize (lg_sl ([.ref xHan, .ref xSum, .int 0, .int p1]) ++ List.replicate (12 - (lg_sl ([.ref xHan, .ref xSum, .int 0, .int p1])).length) Slot.unset).toArray = ls at hl ⊢
  have hl : lv_has ls 12 [(0, .ref xHan), (1, .ref xSum), (2, .int 0), (3, .int p1)] := hl
  refine lv_iload_n hx hb dX3_minor_0 rfl (lv_at hl 2 rfl) ?_
  refine lv_aload_n hx hb dX3_minor_1 rfl (lv_at hl 0 rfl) ?_
  refine va_get (D := (dC, dI)) (ci := 3) (v := .int 0) (C := RX3) (T := TX3) (N := 7) hx hb hts hiX3 hown hK hP 0 rfl rfl 0 (by decide) (hts (.fieldLink RX3 25 "ScissorsTable$Hang" "rank" "I") (by decide +kernel)) (fun _ h9 => h9) rfl dX3_minor_2 ?_
  refine lv_icmp_ge (tgt := 14) hx hb dX3_minor_5 (by decide) (fun _ => ?_) (fun c => absurd (by decide) c)
  refine lv_lconst (v := 1) hx hb dX3_minor_14 (by decide) ?_
  have hP9 := hP.sub (ws' := [(xHan, .inr (3, [.int 0, .int 2, .int 1, .ref hH, .ref hR, .ref hT, .ref hM]))]) [0] rfl
  have hD9 := hD.sub (ws' := [(xHan, .inr (3, [.int 0, .int 2, .int 1, .ref hH, .ref hR, .ref hT, .ref hM]))]) [0] (by decide) rfl
  refine W.widen (k := 0) (n := 0) (Nat.le_of_ble_eq_true rfl) (Nat.le_of_ble_eq_true rfl) ?_
  exact W.lret (v := 1) hx hb hr (fun t ht hW => ⟨⟨1, (), rfl, rfl, by rw [ht]; exact hP9, va_K.moved hW.alike hK, hD9⟩, hS.F ht⟩) hS.2.2 dX3_minor_15
set_option maxHeartbeats 4000000 in
set_option maxRecDepth 100000 in
theorem c_X3_firstOpenRow_21 (l : Launch) (dC : Nat → ClassId) (dI : Nat → Nat → Nat) (cB cI cJ : ClassId) (sz : Nat) (xSum sM sP sA xHan : Nat) : Met l yX3_firstOpenRow wsX3_firstOpenRow ({ frames := 1, cells := 0, slots := 0, locals := 24 }) (va_Pc [.ref xHan, .ref xSum] (fun U => U.heap.size = sz ∧ va_P (dC, dI) vwCl [(xSum, .inr (8, [.ref sM, .ref sP, .ref sA, .int 0]))] U.heap ∧ va_K (dC, dI) vwCl [(cB, .byte), (cI, .int), (cJ, .long)] U ∧ va_D (fun _ => True) [(xSum, .inr (8, [.ref sM, .ref sP, .ref sA, .int 0]))])) (va_Qi (fun (r : Int32) (_ : Unit) => r = (-1)) (fun _ t => va_P (dC, dI) vwCl [(xSum, .inr (8, [.ref sM, .ref sP, .ref sA, .int 0]))] t.heap ∧ va_K (dC, dI) vwCl [(cB, .byte), (cI, .int), (cJ, .long)] t ∧ va_D (va_A [(xSum, .inr (8, [.ref sM, .ref sP, .ref sA, .int 0]))] sz) [(xSum, .inr (8, [.ref sM, .ref sP, .ref sA, .int 0]))]) (va_A [(xSum, .inr (8, [.ref sM, .ref sP, .ref sA, .int 0]))] sz)) 0 0 (va_A [(xSum, .inr (8, [.ref sM, .ref sP, .ref sA, .int 0]))] sz) := by
  refine Met.ofW (cc := cX3_firstOpenRow) (maxL := 6) (ret := (some .int)) (by decide) rfl ?_
  intro p e s m args below meth c s₁ B hml hv
  obtain ⟨rfl, hsz, hP, hK, hD0⟩ := hv
  have hx := B.exec
  have hb := B.bytes
  have hr := B.returns
  have hts := atoms_spec (ws := wsX3_firstOpenRow) B.pre
  have hown : s.vm.findClass RX3 = some m.cls := findClass_of_methodNamed B.named
  have hlocks := B.notSynchronized
  have hiX8 : ∀ w ∈ u_ws RX8 TX8 4, w ∈ wsX3_firstOpenRow := by decide +kernel
  subst hsz
  have hD := hD0.self (sz := s.heap.size)
  generalize hAe : va_A [(xSum, .inr (8, [.ref sM, .ref sP, .ref sA, .int 0]))] s.heap.size = A at hD ⊢
  have hA : ∀ q : Nat, s.heap.size ≤ q → A q := fun q h => by rw [← hAe]; exact Or.inr h
  have hS : va_S A s.heap s.heap [] := va_S.rf
  have hP : va_P (dC, dI) vwCl [(xSum, .inr (8, [.ref sM, .ref sP, .ref sA, .int 0]))] s.heap := hP
  have hl := lv_entry ([.ref xHan, .ref xSum]) (n := 6) (Nat.le_of_ble_eq_true rfl)
  rw [lg_entry_eq]
  generalize (lg_sl ([.ref xHan, .ref xSum]) ++ List.replicate (6 - (lg_sl ([.ref xHan, .ref xSum])).length) Slot.unset).toArray = ls at hl ⊢
  have hl : lv_has ls 6 [(0, .ref xHan), (1, .ref xSum)] := hl
  refine lv_iconst (v := 0) hx hb dX3_firstOpenRow_0 (by decide) ?_
  refine lv_istore_n (lv' := [(2, .int 0), (0, .ref xHan), (1, .ref xSum)]) hx hb dX3_firstOpenRow_1 rfl hl (by decide) rfl (fun ls hl => ?_)
  refine lv_iload_n hx hb dX3_firstOpenRow_2 rfl (lv_at hl 0 rfl) ?_
  refine lv_aload_n hx hb dX3_firstOpenRow_3 rfl (lv_at hl 2 rfl) ?_
  refine va_get (D := (dC, dI)) (ci := 8) (v := .int 0) (C := RX8) (T := TX8) (N := 4) hx hb hts hiX8 hown hK hP 0 rfl rfl 3 (by decide) (hts (.fieldLink RX3 53 "ScissorsTable$Sums" "size" "I") (by decide +kernel)) (fun _ h9 => h9) rfl dX3_firstOpenRow_4 ?_
  refine lv_icmp_ge (tgt := 68) hx hb dX3_firstOpenRow_7 (by decide) (fun _ => ?_) (fun c => absurd (by decide) c)
  refine lv_iconst (v := (-1)) hx hb dX3_firstOpenRow_68 (by decide) ?_
  have hP9 := hP.sub (ws' := [(xSum, .inr (8, [.ref sM, .ref sP, .ref sA, .int 0]))]) [0] rfl
  have hD9 := hD.sub (ws' := [(xSum, .inr (8, [.ref sM, .ref sP, .ref sA, .int 0]))]) [0] (by decide) rfl
  refine W.widen (k := 0) (n := 0) (Nat.le_of_ble_eq_true rfl) (Nat.le_of_ble_eq_true rfl) ?_
  exact W.iret (v := (-1)) hx hb hr (fun t ht hW => ⟨⟨(-1), (), rfl, rfl, by rw [ht]; exact hP9, va_K.moved hW.alike hK, hD9⟩, hS.F ht⟩) hS.2.2 dX3_firstOpenRow_69
set_option maxHeartbeats 4000000 in
set_option maxRecDepth 100000 in
theorem c_X3_next_t2 (l : Launch) (dC : Nat → ClassId) (dI : Nat → Nat → Nat) (cB cI cJ : ClassId) (sz : Nat) (xSum sM sP sA xHan hH hR hT hM : Nat) (p1 : Int32) (fh : Nat → Int32) (ft : Nat → Int64) : Met l yX3_next wsX3_next ({ frames := 2, cells := 0, slots := 0, locals := 55 }) (va_Pc [.ref xHan, .ref xSum, .int p1] (fun U => U.heap.size = sz ∧ va_P (dC, dI) vwCl [(xSum, .inr (8, [.ref sM, .ref sP, .ref sA, .int 0])), (xHan, .inr (3, [.int 0, .int 2, .int 1, .ref hH, .ref hR, .ref hT, .ref hM])), (hH, .inl (cI, 7, (.inl fh))), (hT, .inl (cJ, 7, (.inr (.inl ft))))] U.heap ∧ va_K (dC, dI) vwCl [(cB, .byte), (cI, .int), (cJ, .long)] U ∧ va_D (fun _ => True) [(xSum, .inr (8, [.ref sM, .ref sP, .ref sA, .int 0])), (xHan, .inr (3, [.int 0, .int 2, .int 1, .ref hH, .ref hR, .ref hT, .ref hM])), (hH, .inl (cI, 7, (.inl fh))), (hT, .inl (cJ, 7, (.inr (.inl ft))))])) (va_Qv (fun _ : Unit => True) (fun _ t => va_P (dC, dI) vwCl [(xHan, .inr (3, [.int 0, .int 3, .int 1, .ref hH, .ref hR, .ref hT, .ref hM])), (xSum, .inr (8, [.ref sM, .ref sP, .ref sA, .int 0])), (hH, .inl (cI, 7, (.inl (upd fh (0 : Int32).toNatClampNeg p1)))), (hT, .inl (cJ, 7, (.inr (.inl (vp_updL ft (0 : Int32).toNatClampNeg 1)))))] t.heap ∧ va_K (dC, dI) vwCl [(cB, .byte), (cI, .int), (cJ, .long)] t ∧ va_D (va_A [(xSum, .inr (8, [.ref sM, .ref sP, .ref sA, .int 0])), (xHan, .inr (3, [.int 0, .int 2, .int 1, .ref hH, .ref hR, .ref hT, .ref hM])), (hH, .inl (cI, 7, (.inl fh))), (hT, .inl (cJ, 7, (.inr (.inl ft))))] sz) [(xHan, .inr (3, [.int 0, .int 3, .int 1, .ref hH, .ref hR, .ref hT, .ref hM])), (xSum, .inr (8, [.ref sM, .ref sP, .ref sA, .int 0])), (hH, .inl (cI, 7, (.inl (upd fh (0 : Int32).toNatClampNeg p1)))), (hT, .inl (cJ, 7, (.inr (.inl (vp_updL ft (0 : Int32).toNatClampNeg 1)))))]) (va_A [(xSum, .inr (8, [.ref sM, .ref sP, .ref sA, .int 0])), (xHan, .inr (3, [.int 0, .int 2, .int 1, .ref hH, .ref hR, .ref hT, .ref hM])), (hH, .inl (cI, 7, (.inl fh))), (hT, .inl (cJ, 7, (.inr (.inl ft))))] sz)) 0 0 (va_A [(xSum, .inr (8, [.ref sM, .ref sP, .ref sA, .int 0])), (xHan, .inr (3, [.int 0, .int 2, .int 1, .ref hH, .ref hR, .ref hT, .ref hM])), (hH, .inl (cI, 7, (.inl fh))), (hT, .inl (cJ, 7, (.inr (.inl ft))))] sz) := by
  refine Met.ofW (cc := cX3_next) (maxL := 4) (ret := none) (by decide) rfl ?_
  intro p e s m args below meth c s₁ B hml hv
  obtain ⟨rfl, hsz, hP, hK, hD0⟩ := hv
  have hx := B.exec
  have hb := B.bytes
  have hr := B.returns
  have hts := atoms_spec (ws := wsX3_next) B.pre
  have hown : s.vm.findClass RX3 = some m.cls := findClass_of_methodNamed B.named
  have hlocks := B.notSynchronized
  have hiX3 : ∀ w ∈ u_ws RX3 TX3 7, w ∈ wsX3_next := by decide +kernel
  subst hsz
  have hD := hD0.self (sz := s.heap.size)
  generalize hAe : va_A [(xSum, .inr (8, [.ref sM, .ref sP, .ref sA, .int 0])), (xHan, .inr (3, [.int 0, .int 2, .int 1, .ref hH, .ref hR, .ref hT, .ref hM])), (hH, .inl (cI, 7, (.inl fh))), (hT, .inl (cJ, 7, (.inr (.inl ft))))] s.heap.size = A at hD ⊢
  have hA : ∀ q : Nat, s.heap.size ≤ q → A q := fun q h => by rw [← hAe]; exact Or.inr h
  have hS : va_S A s.heap s.heap [] := va_S.rf
  have hP : va_P (dC, dI) vwCl [(xSum, .inr (8, [.ref sM, .ref sP, .ref sA, .int 0])), (xHan, .inr (3, [.int 0, .int 2, .int 1, .ref hH, .ref hR, .ref hT, .ref hM])), (hH, .inl (cI, 7, (.inl fh))), (hT, .inl (cJ, 7, (.inr (.inl ft))))] s.heap := hP
  have hl := lv_entry ([.ref xHan, .ref xSum, .int p1]) (n := 4) (Nat.le_of_ble_eq_true rfl)
  rw [lg_entry_eq]
  generalize (lg_sl ([.ref xHan, .ref xSum, .int p1]) ++ List.replicate (4 - (lg_sl ([.ref xHan, .ref xSum, .int p1])).length) Slot.unset).toArray = ls at hl ⊢
  have hl : lv_has ls 4 [(0, .ref xHan), (1, .ref xSum), (2, .int p1)] := hl
  refine lv_aload_n hx hb dX3_next_0 rfl (lv_at hl 0 rfl) ?_
  refine va_get (D := (dC, dI)) (ci := 3) (v := .int 2) (C := RX3) (T := TX3) (N := 7) hx hb hts hiX3 hown hK hP 1 rfl rfl 1 (by decide) (hts (.fieldLink RX3 29 "ScissorsTable$Hang" "taken" "I") (by decide +kernel)) (fun _ h9 => h9) rfl dX3_next_1 ?_
  refine lv_bipush (v := 6) hx hb dX3_next_4 (by decide) ?_
  refine lv_icmp_ge (tgt := 18) hx hb dX3_next_6 (by decide) (fun c => absurd c (by decide)) (fun _ => ?_)
  refine lv_aload_n hx hb dX3_next_9 rfl (lv_at hl 0 rfl) ?_
  refine va_get (D := (dC, dI)) (ci := 3) (v := .int 0) (C := RX3) (T := TX3) (N := 7) hx hb hts hiX3 hown hK hP 1 rfl rfl 0 (by decide) (hts (.fieldLink RX3 25 "ScissorsTable$Hang" "rank" "I") (by decide +kernel)) (fun _ h9 => h9) rfl dX3_next_10 ?_
  refine lv_bipush (v := 6) hx hb dX3_next_13 (by decide) ?_
  refine lv_icmp_lt (tgt := 19) hx hb dX3_next_15 (by decide) (fun _ => ?_) (fun c => absurd (by decide) c)
  refine lv_aload_n hx hb dX3_next_19 rfl (lv_at hl 0 rfl) ?_
  refine va_get (D := (dC, dI)) (ci := 3) (v := .ref hH) (C := RX3) (T := TX3) (N := 7) hx hb hts hiX3 hown hK hP 1 rfl rfl 3 (by decide) (hts (.fieldLink RX3 9 "ScissorsTable$Hang" "held" "[I") (by decide +kernel)) (fun _ h9 => h9) rfl dX3_next_20 ?_
  refine lv_aload_n hx hb dX3_next_23 rfl (lv_at hl 0 rfl) ?_
  refine va_get (D := (dC, dI)) (ci := 3) (v := .int 0) (C := RX3) (T := TX3) (N := 7) hx hb hts hiX3 hown hK hP 1 rfl rfl 0 (by decide) (hts (.fieldLink RX3 25 "ScissorsTable$Hang" "rank" "I") (by decide +kernel)) (fun _ h9 => h9) rfl dX3_next_24 ?_
  refine lv_iload_n hx hb dX3_next_27 rfl (lv_at hl 2 rfl) ?_
  refine va_iast hx hb hK hP hD hS 2 1 rfl rfl (by show ¬ (_ ∨ _); decide) dX3_next_28 (fun H locs hP hD hS => ?_)
  have hP : va_P (dC, dI) vwCl [(xSum, .inr (8, [.ref sM, .ref sP, .ref sA, .int 0])), (xHan, .inr (3, [.int 0, .int 2, .int 1, .ref hH, .ref hR, .ref hT, .ref hM])), (hH, .inl (cI, 7, (.inl (upd fh (0 : Int32).toNatClampNeg p1)))), (hT, .inl (cJ, 7, (.inr (.inl ft))))] H := hP
  have hD : va_D A [(xSum, .inr (8, [.ref sM, .ref sP, .ref sA, .int 0])), (xHan, .inr (3, [.int 0, .int 2, .int 1, .ref hH, .ref hR, .ref hT, .ref hM])), (hH, .inl (cI, 7, (.inl (upd fh (0 : Int32).toNatClampNeg p1)))), (hT, .inl (cJ, 7, (.inr (.inl ft))))] := hD
  refine lv_iconst (v := 0) hx hb dX3_next_29 (by decide) ?_
  refine lv_istore_n (lv' := [(3, .int 0), (0, .ref xHan), (1, .ref xSum), (2, .int p1)]) hx hb dX3_next_30 rfl hl (by decide) rfl (fun ls hl => ?_)
  refine lv_iload_n hx hb dX3_next_31 rfl (lv_at hl 0 rfl) ?_
  refine lv_aload_n hx hb dX3_next_32 rfl (lv_at hl 1 rfl) ?_
  refine va_get (D := (dC, dI)) (ci := 3) (v := .int 0) (C := RX3) (T := TX3) (N := 7) hx hb hts hiX3 hown hK hP 1 rfl rfl 0 (by decide) (hts (.fieldLink RX3 25 "ScissorsTable$Hang" "rank" "I") (by decide +kernel)) (fun _ h9 => h9) rfl dX3_next_33 ?_
  refine lv_icmp_gt (tgt := 74) hx hb dX3_next_36 (by decide) (fun c => absurd c (by decide)) (fun _ => ?_)
  refine lv_aload_n hx hb dX3_next_39 rfl (lv_at hl 1 rfl) ?_
  refine va_get (D := (dC, dI)) (ci := 3) (v := .ref hT) (C := RX3) (T := TX3) (N := 7) hx hb hts hiX3 hown hK hP 1 rfl rfl 5 (by decide) (hts (.fieldLink RX3 18 "ScissorsTable$Hang" "trial" "[J") (by decide +kernel)) (fun _ h9 => h9) rfl dX3_next_40 ?_
  refine lv_iload_n hx hb dX3_next_43 rfl (lv_at hl 0 rfl) ?_
  refine lv_aload_n hx hb dX3_next_44 rfl (lv_at hl 1 rfl) ?_
  refine lv_aload_n hx hb dX3_next_45 rfl (lv_at hl 2 rfl) ?_
  refine lv_iconst (v := 0) hx hb dX3_next_46 (by decide) ?_
  refine lv_iconst (v := 1) hx hb dX3_next_47 (by decide) ?_
  refine lv_iload_n hx hb dX3_next_48 rfl (lv_at hl 0 rfl) ?_
  refine lv_ishl hx hb dX3_next_49 ?_
  refine lv_topi (fun x_1 ex_1 => ?_)
  obtain rfl : x_1 = 1 := ex_1.trans (by first | rfl | decide)
  have hPc := hP.sub (ws' := [(xHan, .inr (3, [.int 0, .int 2, .int 1, .ref hH, .ref hR, .ref hT, .ref hM]))]) [1] rfl
  have hDc := hD.sub (ws' := [(xHan, .inr (3, [.int 0, .int 2, .int 1, .ref hH, .ref hR, .ref hT, .ref hM]))]) [1] (by decide) rfl
  have hFc := va_free (wc := [(xHan, .inr (3, [.int 0, .int 2, .int 1, .ref hH, .ref hR, .ref hT, .ref hM]))]) hD hS hA [1] rfl
  refine va_calll (va_runV (As := [.ref xSum, .int 0, .int 1]) (rest := [.int 0, .ref hT]) ⟨hx, hb, hml, hown, hts⟩ (c_X3_minor_21 l dC dI cB cI cJ H.size xHan hH hR hT hM xSum 1) (cwV 3 hts gX3_next_X3_minor rfl rfl rfl (by decide +kernel) ⟨Nat.le_of_ble_eq_true rfl, Nat.le_of_ble_eq_true rfl⟩) ⟨fun a U g mk q => by obtain ⟨q0, q1, qP, qK, qD⟩ := q; exact ⟨q0, q1, qP, va_K.moved (u := U) (U := U.calling g mk a) (Vm.Alike.refl U.vm) qK, qD⟩, va_recv hK hP (ci := 3) (q0 := 1) rfl rfl, fun U hU hW => ⟨rfl, by rw [hU], by rw [hU]; exact hPc, va_K.moved hW.alike hK, hDc.weaken (fun _ _ _ _ => trivial)⟩⟩ rfl rfl hl.1 rfl (lv_room (Nat.le_of_ble_eq_true rfl)) dX3_next_50 ⟨Nat.le_of_ble_eq_true rfl, Nat.le_of_ble_eq_true rfl⟩) hS (fun q _ h => hFc q h) hFc (fun r_2 u t H1 locs ht hvm hw hB hz1 hk1 hS => ?_)
  obtain ⟨hP1, hK1, hD1⟩ := hB
  rw [ht] at hP1
  obtain ⟨hP, hD⟩ := va_join (wr := [(xSum, .inr (8, [.ref sM, .ref sP, .ref sA, .int 0])), (hH, .inl (cI, 7, (.inl (upd fh (0 : Int32).toNatClampNeg p1)))), (hT, .inl (cJ, 7, (.inr (.inl ft))))]) (w1 := [(xHan, .inr (3, [.int 0, .int 2, .int 1, .ref hH, .ref hR, .ref hT, .ref hM]))]) hP hD [1] [0, 2, 3] rfl rfl (by decide) (by decide) hk1 hFc hP1 hD1
  generalize H1 = H at hP hS ⊢
  have hP : va_P (dC, dI) vwCl [(xSum, .inr (8, [.ref sM, .ref sP, .ref sA, .int 0])), (hH, .inl (cI, 7, (.inl (upd fh (0 : Int32).toNatClampNeg p1)))), (hT, .inl (cJ, 7, (.inr (.inl ft)))), (xHan, .inr (3, [.int 0, .int 2, .int 1, .ref hH, .ref hR, .ref hT, .ref hM]))] H := hP
  have hD : va_D A [(xSum, .inr (8, [.ref sM, .ref sP, .ref sA, .int 0])), (hH, .inl (cI, 7, (.inl (upd fh (0 : Int32).toNatClampNeg p1)))), (hT, .inl (cJ, 7, (.inr (.inl ft)))), (xHan, .inr (3, [.int 0, .int 2, .int 1, .ref hH, .ref hR, .ref hT, .ref hM]))] := hD
  have hr_2 := hw
  obtain rfl : r_2 = 1 := hr_2
  refine lv_iload_n hx hb dX3_next_53 rfl (lv_at hl 0 rfl) ?_
  refine lv_iconst (v := 1) hx hb dX3_next_54 (by decide) ?_
  refine lv_iand hx hb dX3_next_55 ?_
  refine lv_topi (fun x_3 ex_3 => ?_)
  obtain rfl : x_3 = 0 := ex_3.trans (by first | rfl | decide)
  refine lv_iconst (v := 1) hx hb dX3_next_56 (by decide) ?_
  refine lv_icmp_ne (tgt := 64) hx hb dX3_next_57 (by decide) (fun _ => ?_) (fun c => absurd c (by decide))
  refine lv_iconst (v := 1) hx hb dX3_next_64 (by decide) ?_
  refine lv_i2l (v := 1) hx hb dX3_next_65 (by decide) ?_
  refine lv_lmul hx hb dX3_next_66 ?_
  refine lv_topl (fun x_4 ex_4 => ?_)
  obtain rfl : x_4 = 1 := ex_4.trans (by first | rfl | decide)
  refine va_last hx hb hK hP hD hS 2 2 rfl rfl (by show ¬ (_ ∨ _); decide) dX3_next_67 (fun H locs hP hD hS => ?_)
  have hP : va_P (dC, dI) vwCl [(xSum, .inr (8, [.ref sM, .ref sP, .ref sA, .int 0])), (hH, .inl (cI, 7, (.inl (upd fh (0 : Int32).toNatClampNeg p1)))), (hT, .inl (cJ, 7, (.inr (.inl (vp_updL ft (0 : Int32).toNatClampNeg 1))))), (xHan, .inr (3, [.int 0, .int 2, .int 1, .ref hH, .ref hR, .ref hT, .ref hM]))] H := hP
  have hD : va_D A [(xSum, .inr (8, [.ref sM, .ref sP, .ref sA, .int 0])), (hH, .inl (cI, 7, (.inl (upd fh (0 : Int32).toNatClampNeg p1)))), (hT, .inl (cJ, 7, (.inr (.inl (vp_updL ft (0 : Int32).toNatClampNeg 1))))), (xHan, .inr (3, [.int 0, .int 2, .int 1, .ref hH, .ref hR, .ref hT, .ref hM]))] := hD
  refine lv_iinc (v := 1) (lv' := [(3, .int 1), (0, .ref xHan), (1, .ref xSum), (2, .int p1)]) hx hb dX3_next_68 hl (k := 0) rfl (by decide) (by decide) rfl (fun ls hl => ?_)
  refine lv_goto (tgt := 31) hx hb dX3_next_71 (by decide) ?_
  refine lv_iload_n hx hb dX3_next_31 rfl (lv_at hl 0 rfl) ?_
  refine lv_aload_n hx hb dX3_next_32 rfl (lv_at hl 1 rfl) ?_
  refine va_get (D := (dC, dI)) (ci := 3) (v := .int 0) (C := RX3) (T := TX3) (N := 7) hx hb hts hiX3 hown hK hP 3 rfl rfl 0 (by decide) (hts (.fieldLink RX3 25 "ScissorsTable$Hang" "rank" "I") (by decide +kernel)) (fun _ h9 => h9) rfl dX3_next_33 ?_
  refine lv_icmp_gt (tgt := 74) hx hb dX3_next_36 (by decide) (fun _ => ?_) (fun c => absurd (by decide) c)
  refine lv_aload_n hx hb dX3_next_74 rfl (lv_at hl 1 rfl) ?_
  refine lv_aload_n hx hb dX3_next_75 rfl (lv_at hl 2 rfl) ?_
  have hPc := hP.sub (ws' := [(xSum, .inr (8, [.ref sM, .ref sP, .ref sA, .int 0]))]) [0] rfl
  have hDc := hD.sub (ws' := [(xSum, .inr (8, [.ref sM, .ref sP, .ref sA, .int 0]))]) [0] (by decide) rfl
  have hFc := va_free (wc := [(xSum, .inr (8, [.ref sM, .ref sP, .ref sA, .int 0]))]) hD hS hA [0] rfl
  refine va_calli (va_runV (As := [.ref xSum]) (rest := []) ⟨hx, hb, hml, hown, hts⟩ (c_X3_firstOpenRow_21 l dC dI cB cI cJ H.size xSum sM sP sA xHan) (cwV 1 hts gX3_next_X3_firstOpenRow rfl rfl rfl (by decide +kernel) ⟨Nat.le_of_ble_eq_true rfl, Nat.le_of_ble_eq_true rfl⟩) ⟨fun a U g mk q => by obtain ⟨q0, q1, qP, qK, qD⟩ := q; exact ⟨q0, q1, qP, va_K.moved (u := U) (U := U.calling g mk a) (Vm.Alike.refl U.vm) qK, qD⟩, va_recv hK hP (ci := 3) (q0 := 3) rfl rfl, fun U hU hW => ⟨rfl, by rw [hU], by rw [hU]; exact hPc, va_K.moved hW.alike hK, hDc.weaken (fun _ _ _ _ => trivial)⟩⟩ rfl rfl hl.1 rfl (lv_room (Nat.le_of_ble_eq_true rfl)) dX3_next_76 ⟨Nat.le_of_ble_eq_true rfl, Nat.le_of_ble_eq_true rfl⟩) hS (fun q _ h => hFc q h) hFc (fun r_5 u t H1 locs ht hvm hw hB hz1 hk1 hS => ?_)
  obtain ⟨hP1, hK1, hD1⟩ := hB
  rw [ht] at hP1
  obtain ⟨hP, hD⟩ := va_join (wr := [(hH, .inl (cI, 7, (.inl (upd fh (0 : Int32).toNatClampNeg p1)))), (hT, .inl (cJ, 7, (.inr (.inl (vp_updL ft (0 : Int32).toNatClampNeg 1))))), (xHan, .inr (3, [.int 0, .int 2, .int 1, .ref hH, .ref hR, .ref hT, .ref hM]))]) (w1 := [(xSum, .inr (8, [.ref sM, .ref sP, .ref sA, .int 0]))]) hP hD [0] [1, 2, 3] rfl rfl (by decide) (by decide) hk1 hFc hP1 hD1
  generalize H1 = H at hP hS ⊢
  have hP : va_P (dC, dI) vwCl [(hH, .inl (cI, 7, (.inl (upd fh (0 : Int32).toNatClampNeg p1)))), (hT, .inl (cJ, 7, (.inr (.inl (vp_updL ft (0 : Int32).toNatClampNeg 1))))), (xHan, .inr (3, [.int 0, .int 2, .int 1, .ref hH, .ref hR, .ref hT, .ref hM])), (xSum, .inr (8, [.ref sM, .ref sP, .ref sA, .int 0]))] H := hP
  have hD : va_D A [(hH, .inl (cI, 7, (.inl (upd fh (0 : Int32).toNatClampNeg p1)))), (hT, .inl (cJ, 7, (.inr (.inl (vp_updL ft (0 : Int32).toNatClampNeg 1))))), (xHan, .inr (3, [.int 0, .int 2, .int 1, .ref hH, .ref hR, .ref hT, .ref hM])), (xSum, .inr (8, [.ref sM, .ref sP, .ref sA, .int 0]))] := hD
  have hr_5 := hw
  obtain rfl : r_5 = (-1) := hr_5
  refine lv_istore_n (lv' := [(3, .int (-1)), (0, .ref xHan), (1, .ref xSum), (2, .int p1)]) hx hb dX3_next_79 rfl hl (by decide) rfl (fun ls hl => ?_)
  refine lv_iload_n hx hb dX3_next_80 rfl (lv_at hl 0 rfl) ?_
  refine lv_if_lt (tgt := 107) hx hb dX3_next_81 (by decide) (fun _ => ?_) (fun c => absurd (by decide) c)
  refine lv_aload_n hx hb dX3_next_107 rfl (lv_at hl 1 rfl) ?_
  refine va_get (D := (dC, dI)) (ci := 3) (v := .int 1) (C := RX3) (T := TX3) (N := 7) hx hb hts hiX3 hown hK hP 2 rfl rfl 2 (by decide) (hts (.fieldLink RX3 32 "ScissorsTable$Hang" "related" "Z") (by decide +kernel)) (fun _ h9 => h9) rfl dX3_next_108 ?_
  refine lv_if_ne (tgt := 123) hx hb dX3_next_111 (by decide) (fun _ => ?_) (fun c => absurd c (by decide))
  refine lv_aload_n hx hb dX3_next_123 rfl (lv_at hl 1 rfl) ?_
  refine lv_dup hx hb dX3_next_124 rfl ?_
  refine va_get (D := (dC, dI)) (ci := 3) (v := .int 2) (C := RX3) (T := TX3) (N := 7) hx hb hts hiX3 hown hK hP 2 rfl rfl 1 (by decide) (hts (.fieldLink RX3 29 "ScissorsTable$Hang" "taken" "I") (by decide +kernel)) (fun _ h9 => h9) rfl dX3_next_125 ?_
  refine lv_iconst (v := 1) hx hb dX3_next_128 (by decide) ?_
  refine lv_iadd hx hb dX3_next_129 ?_
  refine lv_topi (fun x_6 ex_6 => ?_)
  obtain rfl : x_6 = 3 := ex_6.trans (by first | rfl | decide)
  refine va_put (D := (dC, dI)) (ci := 3) (v := .int 3) (ty := .int) (C := RX3) (T := TX3) (N := 7) hx hb hts hiX3 tyX3 tyX3_ok nmX3 hown hK hP hD hS 2 rfl rfl 1 (by decide) (hts (.fieldLink RX3 29 "ScissorsTable$Hang" "taken" "I") (by decide +kernel)) (fun _ h9 => h9) rfl (by decide +kernel) rfl rfl (Nat.le_of_ble_eq_true rfl) dX3_next_130 (fun H locs hP hD hS => ?_)
  have hP : va_P (dC, dI) vwCl [(hH, .inl (cI, 7, (.inl (upd fh (0 : Int32).toNatClampNeg p1)))), (hT, .inl (cJ, 7, (.inr (.inl (vp_updL ft (0 : Int32).toNatClampNeg 1))))), (xHan, .inr (3, [.int 0, .int 3, .int 1, .ref hH, .ref hR, .ref hT, .ref hM])), (xSum, .inr (8, [.ref sM, .ref sP, .ref sA, .int 0]))] H := hP
  have hD : va_D A [(hH, .inl (cI, 7, (.inl (upd fh (0 : Int32).toNatClampNeg p1)))), (hT, .inl (cJ, 7, (.inr (.inl (vp_updL ft (0 : Int32).toNatClampNeg 1))))), (xHan, .inr (3, [.int 0, .int 3, .int 1, .ref hH, .ref hR, .ref hT, .ref hM])), (xSum, .inr (8, [.ref sM, .ref sP, .ref sA, .int 0]))] := hD
  have hP9 := hP.sub (ws' := [(xHan, .inr (3, [.int 0, .int 3, .int 1, .ref hH, .ref hR, .ref hT, .ref hM])), (xSum, .inr (8, [.ref sM, .ref sP, .ref sA, .int 0])), (hH, .inl (cI, 7, (.inl (upd fh (0 : Int32).toNatClampNeg p1)))), (hT, .inl (cJ, 7, (.inr (.inl (vp_updL ft (0 : Int32).toNatClampNeg 1)))))]) [2, 3, 0, 1] rfl
  have hD9 := hD.sub (ws' := [(xHan, .inr (3, [.int 0, .int 3, .int 1, .ref hH, .ref hR, .ref hT, .ref hM])), (xSum, .inr (8, [.ref sM, .ref sP, .ref sA, .int 0])), (hH, .inl (cI, 7, (.inl (upd fh (0 : Int32).toNatClampNeg p1)))), (hT, .inl (cJ, 7, (.inr (.inl (vp_updL ft (0 : Int32).toNatClampNeg 1)))))]) [2, 3, 0, 1] (by decide) rfl
  refine W.widen (k := 0) (n := 0) (Nat.le_of_ble_eq_true rfl) (Nat.le_of_ble_eq_true rfl) ?_
  exact W.vret hx hb hr (fun t ht hW => ⟨⟨(), rfl, trivial, by rw [ht]; exact hP9, va_K.moved hW.alike hK, hD9⟩, hS.F ht⟩) hS.2.2 dX3_next_133
set_option maxHeartbeats 4000000 in
set_option maxRecDepth 100000 in
theorem c_X3_minor_31 (l : Launch) (dC : Nat → ClassId) (dI : Nat → Nat → Nat) (cB cI cJ : ClassId) (sz : Nat) (xHan hH hR hT hM xSum : Nat) (p1 : Int32) : Met l yX3_minor wsX3_minor ({ frames := 1, cells := 0, slots := 0, locals := 24 }) (va_Pc [.ref xHan, .ref xSum, .int 0, .int p1] (fun U => U.heap.size = sz ∧ va_P (dC, dI) vwCl [(xHan, .inr (3, [.int 0, .int 3, .int 1, .ref hH, .ref hR, .ref hT, .ref hM]))] U.heap ∧ va_K (dC, dI) vwCl [(cB, .byte), (cI, .int), (cJ, .long)] U ∧ va_D (fun _ => True) [(xHan, .inr (3, [.int 0, .int 3, .int 1, .ref hH, .ref hR, .ref hT, .ref hM]))])) (va_Ql (fun (r : Int64) (_ : Unit) => r = 1) (fun _ t => va_P (dC, dI) vwCl [(xHan, .inr (3, [.int 0, .int 3, .int 1, .ref hH, .ref hR, .ref hT, .ref hM]))] t.heap ∧ va_K (dC, dI) vwCl [(cB, .byte), (cI, .int), (cJ, .long)] t ∧ va_D (va_A [(xHan, .inr (3, [.int 0, .int 3, .int 1, .ref hH, .ref hR, .ref hT, .ref hM]))] sz) [(xHan, .inr (3, [.int 0, .int 3, .int 1, .ref hH, .ref hR, .ref hT, .ref hM]))]) (va_A [(xHan, .inr (3, [.int 0, .int 3, .int 1, .ref hH, .ref hR, .ref hT, .ref hM]))] sz)) 0 0 (va_A [(xHan, .inr (3, [.int 0, .int 3, .int 1, .ref hH, .ref hR, .ref hT, .ref hM]))] sz) := by
  refine Met.ofW (cc := cX3_minor) (maxL := 12) (ret := (some .long)) (by decide) rfl ?_
  intro p e s m args below meth c s₁ B hml hv
  obtain ⟨rfl, hsz, hP, hK, hD0⟩ := hv
  have hx := B.exec
  have hb := B.bytes
  have hr := B.returns
  have hts := atoms_spec (ws := wsX3_minor) B.pre
  have hown : s.vm.findClass RX3 = some m.cls := findClass_of_methodNamed B.named
  have hlocks := B.notSynchronized
  have hiX3 : ∀ w ∈ u_ws RX3 TX3 7, w ∈ wsX3_minor := by decide +kernel
  subst hsz
  have hD := hD0.self (sz := s.heap.size)
  generalize hAe : va_A [(xHan, .inr (3, [.int 0, .int 3, .int 1, .ref hH, .ref hR, .ref hT, .ref hM]))] s.heap.size = A at hD ⊢
  have hA : ∀ q : Nat, s.heap.size ≤ q → A q := fun q h => by rw [← hAe]; exact Or.inr h
  have hS : va_S A s.heap s.heap [] := va_S.rf
  have hP : va_P (dC, dI) vwCl [(xHan, .inr (3, [.int 0, .int 3, .int 1, .ref hH, .ref hR, .ref hT, .ref hM]))] s.heap := hP
  have hl := lv_entry ([.ref xHan, .ref xSum, .int 0, .int p1]) (n := 12) (Nat.le_of_ble_eq_true rfl)
  rw [lg_entry_eq]
  generalize (lg_sl ([.ref xHan, .ref xSum, .int 0, .int p1]) ++ List.replicate (12 - (lg_sl ([.ref xHan, .ref xSum, .int 0, .int p1])).length) Slot.unset).toArray = ls at hl ⊢
  have hl : lv_has ls 12 [(0, .ref xHan), (1, .ref xSum), (2, .int 0), (3, .int p1)] := hl
  refine lv_iload_n hx hb dX3_minor_0 rfl (lv_at hl 2 rfl) ?_
  refine lv_aload_n hx hb dX3_minor_1 rfl (lv_at hl 0 rfl) ?_
  refine va_get (D := (dC, dI)) (ci := 3) (v := .int 0) (C := RX3) (T := TX3) (N := 7) hx hb hts hiX3 hown hK hP 0 rfl rfl 0 (by decide) (hts (.fieldLink RX3 25 "ScissorsTable$Hang" "rank" "I") (by decide +kernel)) (fun _ h9 => h9) rfl dX3_minor_2 ?_
  refine lv_icmp_ge (tgt := 14) hx hb dX3_minor_5 (by decide) (fun _ => ?_) (fun c => absurd (by decide) c)
  refine lv_lconst (v := 1) hx hb dX3_minor_14 (by decide) ?_
  have hP9 := hP.sub (ws' := [(xHan, .inr (3, [.int 0, .int 3, .int 1, .ref hH, .ref hR, .ref hT, .ref hM]))]) [0] rfl
  have hD9 := hD.sub (ws' := [(xHan, .inr (3, [.int 0, .int 3, .int 1, .ref hH, .ref hR, .ref hT, .ref hM]))]) [0] (by decide) rfl
  refine W.widen (k := 0) (n := 0) (Nat.le_of_ble_eq_true rfl) (Nat.le_of_ble_eq_true rfl) ?_
  exact W.lret (v := 1) hx hb hr (fun t ht hW => ⟨⟨1, (), rfl, rfl, by rw [ht]; exact hP9, va_K.moved hW.alike hK, hD9⟩, hS.F ht⟩) hS.2.2 dX3_minor_15
set_option maxHeartbeats 4000000 in
set_option maxRecDepth 100000 in
theorem c_X3_firstOpenRow_31 (l : Launch) (dC : Nat → ClassId) (dI : Nat → Nat → Nat) (cB cI cJ : ClassId) (sz : Nat) (xSum sM sP sA xHan : Nat) : Met l yX3_firstOpenRow wsX3_firstOpenRow ({ frames := 1, cells := 0, slots := 0, locals := 24 }) (va_Pc [.ref xHan, .ref xSum] (fun U => U.heap.size = sz ∧ va_P (dC, dI) vwCl [(xSum, .inr (8, [.ref sM, .ref sP, .ref sA, .int 0]))] U.heap ∧ va_K (dC, dI) vwCl [(cB, .byte), (cI, .int), (cJ, .long)] U ∧ va_D (fun _ => True) [(xSum, .inr (8, [.ref sM, .ref sP, .ref sA, .int 0]))])) (va_Qi (fun (r : Int32) (_ : Unit) => r = (-1)) (fun _ t => va_P (dC, dI) vwCl [(xSum, .inr (8, [.ref sM, .ref sP, .ref sA, .int 0]))] t.heap ∧ va_K (dC, dI) vwCl [(cB, .byte), (cI, .int), (cJ, .long)] t ∧ va_D (va_A [(xSum, .inr (8, [.ref sM, .ref sP, .ref sA, .int 0]))] sz) [(xSum, .inr (8, [.ref sM, .ref sP, .ref sA, .int 0]))]) (va_A [(xSum, .inr (8, [.ref sM, .ref sP, .ref sA, .int 0]))] sz)) 0 0 (va_A [(xSum, .inr (8, [.ref sM, .ref sP, .ref sA, .int 0]))] sz) := by
  refine Met.ofW (cc := cX3_firstOpenRow) (maxL := 6) (ret := (some .int)) (by decide) rfl ?_
  intro p e s m args below meth c s₁ B hml hv
  obtain ⟨rfl, hsz, hP, hK, hD0⟩ := hv
  have hx := B.exec
  have hb := B.bytes
  have hr := B.returns
  have hts := atoms_spec (ws := wsX3_firstOpenRow) B.pre
  have hown : s.vm.findClass RX3 = some m.cls := findClass_of_methodNamed B.named
  have hlocks := B.notSynchronized
  have hiX8 : ∀ w ∈ u_ws RX8 TX8 4, w ∈ wsX3_firstOpenRow := by decide +kernel
  subst hsz
  have hD := hD0.self (sz := s.heap.size)
  generalize hAe : va_A [(xSum, .inr (8, [.ref sM, .ref sP, .ref sA, .int 0]))] s.heap.size = A at hD ⊢
  have hA : ∀ q : Nat, s.heap.size ≤ q → A q := fun q h => by rw [← hAe]; exact Or.inr h
  have hS : va_S A s.heap s.heap [] := va_S.rf
  have hP : va_P (dC, dI) vwCl [(xSum, .inr (8, [.ref sM, .ref sP, .ref sA, .int 0]))] s.heap := hP
  have hl := lv_entry ([.ref xHan, .ref xSum]) (n := 6) (Nat.le_of_ble_eq_true rfl)
  rw [lg_entry_eq]
  generalize (lg_sl ([.ref xHan, .ref xSum]) ++ List.replicate (6 - (lg_sl ([.ref xHan, .ref xSum])).length) Slot.unset).toArray = ls at hl ⊢
  have hl : lv_has ls 6 [(0, .ref xHan), (1, .ref xSum)] := hl
  refine lv_iconst (v := 0) hx hb dX3_firstOpenRow_0 (by decide) ?_
  refine lv_istore_n (lv' := [(2, .int 0), (0, .ref xHan), (1, .ref xSum)]) hx hb dX3_firstOpenRow_1 rfl hl (by decide) rfl (fun ls hl => ?_)
  refine lv_iload_n hx hb dX3_firstOpenRow_2 rfl (lv_at hl 0 rfl) ?_
  refine lv_aload_n hx hb dX3_firstOpenRow_3 rfl (lv_at hl 2 rfl) ?_
  refine va_get (D := (dC, dI)) (ci := 8) (v := .int 0) (C := RX8) (T := TX8) (N := 4) hx hb hts hiX8 hown hK hP 0 rfl rfl 3 (by decide) (hts (.fieldLink RX3 53 "ScissorsTable$Sums" "size" "I") (by decide +kernel)) (fun _ h9 => h9) rfl dX3_firstOpenRow_4 ?_
  refine lv_icmp_ge (tgt := 68) hx hb dX3_firstOpenRow_7 (by decide) (fun _ => ?_) (fun c => absurd (by decide) c)
  refine lv_iconst (v := (-1)) hx hb dX3_firstOpenRow_68 (by decide) ?_
  have hP9 := hP.sub (ws' := [(xSum, .inr (8, [.ref sM, .ref sP, .ref sA, .int 0]))]) [0] rfl
  have hD9 := hD.sub (ws' := [(xSum, .inr (8, [.ref sM, .ref sP, .ref sA, .int 0]))]) [0] (by decide) rfl
  refine W.widen (k := 0) (n := 0) (Nat.le_of_ble_eq_true rfl) (Nat.le_of_ble_eq_true rfl) ?_
  exact W.iret (v := (-1)) hx hb hr (fun t ht hW => ⟨⟨(-1), (), rfl, rfl, by rw [ht]; exact hP9, va_K.moved hW.alike hK, hD9⟩, hS.F ht⟩) hS.2.2 dX3_firstOpenRow_69
set_option maxHeartbeats 4000000 in
set_option maxRecDepth 100000 in
theorem c_X3_next_t3 (l : Launch) (dC : Nat → ClassId) (dI : Nat → Nat → Nat) (cB cI cJ : ClassId) (sz : Nat) (xSum sM sP sA xHan hH hR hT hM : Nat) (p1 : Int32) (fh : Nat → Int32) (ft : Nat → Int64) : Met l yX3_next wsX3_next ({ frames := 2, cells := 0, slots := 0, locals := 55 }) (va_Pc [.ref xHan, .ref xSum, .int p1] (fun U => U.heap.size = sz ∧ va_P (dC, dI) vwCl [(xSum, .inr (8, [.ref sM, .ref sP, .ref sA, .int 0])), (xHan, .inr (3, [.int 0, .int 3, .int 1, .ref hH, .ref hR, .ref hT, .ref hM])), (hH, .inl (cI, 7, (.inl fh))), (hT, .inl (cJ, 7, (.inr (.inl ft))))] U.heap ∧ va_K (dC, dI) vwCl [(cB, .byte), (cI, .int), (cJ, .long)] U ∧ va_D (fun _ => True) [(xSum, .inr (8, [.ref sM, .ref sP, .ref sA, .int 0])), (xHan, .inr (3, [.int 0, .int 3, .int 1, .ref hH, .ref hR, .ref hT, .ref hM])), (hH, .inl (cI, 7, (.inl fh))), (hT, .inl (cJ, 7, (.inr (.inl ft))))])) (va_Qv (fun _ : Unit => True) (fun _ t => va_P (dC, dI) vwCl [(xHan, .inr (3, [.int 0, .int 4, .int 1, .ref hH, .ref hR, .ref hT, .ref hM])), (xSum, .inr (8, [.ref sM, .ref sP, .ref sA, .int 0])), (hH, .inl (cI, 7, (.inl (upd fh (0 : Int32).toNatClampNeg p1)))), (hT, .inl (cJ, 7, (.inr (.inl (vp_updL ft (0 : Int32).toNatClampNeg 1)))))] t.heap ∧ va_K (dC, dI) vwCl [(cB, .byte), (cI, .int), (cJ, .long)] t ∧ va_D (va_A [(xSum, .inr (8, [.ref sM, .ref sP, .ref sA, .int 0])), (xHan, .inr (3, [.int 0, .int 3, .int 1, .ref hH, .ref hR, .ref hT, .ref hM])), (hH, .inl (cI, 7, (.inl fh))), (hT, .inl (cJ, 7, (.inr (.inl ft))))] sz) [(xHan, .inr (3, [.int 0, .int 4, .int 1, .ref hH, .ref hR, .ref hT, .ref hM])), (xSum, .inr (8, [.ref sM, .ref sP, .ref sA, .int 0])), (hH, .inl (cI, 7, (.inl (upd fh (0 : Int32).toNatClampNeg p1)))), (hT, .inl (cJ, 7, (.inr (.inl (vp_updL ft (0 : Int32).toNatClampNeg 1)))))]) (va_A [(xSum, .inr (8, [.ref sM, .ref sP, .ref sA, .int 0])), (xHan, .inr (3, [.int 0, .int 3, .int 1, .ref hH, .ref hR, .ref hT, .ref hM])), (hH, .inl (cI, 7, (.inl fh))), (hT, .inl (cJ, 7, (.inr (.inl ft))))] sz)) 0 0 (va_A [(xSum, .inr (8, [.ref sM, .ref sP, .ref sA, .int 0])), (xHan, .inr (3, [.int 0, .int 3, .int 1, .ref hH, .ref hR, .ref hT, .ref hM])), (hH, .inl (cI, 7, (.inl fh))), (hT, .inl (cJ, 7, (.inr (.inl ft))))] sz) := by
  refine Met.ofW (cc := cX3_next) (maxL := 4) (ret := none) (by decide) rfl ?_
  intro p e s m args below meth c s₁ B hml hv
  obtain ⟨rfl, hsz, hP, hK, hD0⟩ := hv
  have hx := B.exec
  have hb := B.bytes
  have hr := B.returns
  have hts := atoms_spec (ws := wsX3_next) B.pre
  have hown : s.vm.findClass RX3 = some m.cls := findClass_of_methodNamed B.named
  have hlocks := B.notSynchronized
  have hiX3 : ∀ w ∈ u_ws RX3 TX3 7, w ∈ wsX3_next := by decide +kernel
  subst hsz
  have hD := hD0.self (sz := s.heap.size)
  generalize hAe : va_A [(xSum, .inr (8, [.ref sM, .ref sP, .ref sA, .int 0])), (xHan, .inr (3, [.int 0, .int 3, .int 1, .ref hH, .ref hR, .ref hT, .ref hM])), (hH, .inl (cI, 7, (.inl fh))), (hT, .inl (cJ, 7, (.inr (.inl ft))))] s.heap.size = A at hD ⊢
  have hA : ∀ q : Nat, s.heap.size ≤ q → A q := fun q h => by rw [← hAe]; exact Or.inr h
  have hS : va_S A s.heap s.heap [] := va_S.rf
  have hP : va_P (dC, dI) vwCl [(xSum, .inr (8, [.ref sM, .ref sP, .ref sA, .int 0])), (xHan, .inr (3, [.int 0, .int 3, .int 1, .ref hH, .ref hR, .ref hT, .ref hM])), (hH, .inl (cI, 7, (.inl fh))), (hT, .inl (cJ, 7, (.inr (.inl ft))))] s.heap := hP
  have hl := lv_entry ([.ref xHan, .ref xSum, .int p1]) (n := 4) (Nat.le_of_ble_eq_true rfl)
  rw [lg_entry_eq]
  generalize (lg_sl ([.ref xHan, .ref xSum, .int p1]) ++ List.replicate (4 - (lg_sl ([.ref xHan, .ref xSum, .int p1])).length) Slot.unset).toArray = ls at hl ⊢
  have hl : lv_has ls 4 [(0, .ref xHan), (1, .ref xSum), (2, .int p1)] := hl
  refine lv_aload_n hx hb dX3_next_0 rfl (lv_at hl 0 rfl) ?_
  refine va_get (D := (dC, dI)) (ci := 3) (v := .int 3) (C := RX3) (T := TX3) (N := 7) hx hb hts hiX3 hown hK hP 1 rfl rfl 1 (by decide) (hts (.fieldLink RX3 29 "ScissorsTable$Hang" "taken" "I") (by decide +kernel)) (fun _ h9 => h9) rfl dX3_next_1 ?_
  refine lv_bipush (v := 6) hx hb dX3_next_4 (by decide) ?_
  refine lv_icmp_ge (tgt := 18) hx hb dX3_next_6 (by decide) (fun c => absurd c (by decide)) (fun _ => ?_)
  refine lv_aload_n hx hb dX3_next_9 rfl (lv_at hl 0 rfl) ?_
  refine va_get (D := (dC, dI)) (ci := 3) (v := .int 0) (C := RX3) (T := TX3) (N := 7) hx hb hts hiX3 hown hK hP 1 rfl rfl 0 (by decide) (hts (.fieldLink RX3 25 "ScissorsTable$Hang" "rank" "I") (by decide +kernel)) (fun _ h9 => h9) rfl dX3_next_10 ?_
  refine lv_bipush (v := 6) hx hb dX3_next_13 (by decide) ?_
  refine lv_icmp_lt (tgt := 19) hx hb dX3_next_15 (by decide) (fun _ => ?_) (fun c => absurd (by decide) c)
  refine lv_aload_n hx hb dX3_next_19 rfl (lv_at hl 0 rfl) ?_
  refine va_get (D := (dC, dI)) (ci := 3) (v := .ref hH) (C := RX3) (T := TX3) (N := 7) hx hb hts hiX3 hown hK hP 1 rfl rfl 3 (by decide) (hts (.fieldLink RX3 9 "ScissorsTable$Hang" "held" "[I") (by decide +kernel)) (fun _ h9 => h9) rfl dX3_next_20 ?_
  refine lv_aload_n hx hb dX3_next_23 rfl (lv_at hl 0 rfl) ?_
  refine va_get (D := (dC, dI)) (ci := 3) (v := .int 0) (C := RX3) (T := TX3) (N := 7) hx hb hts hiX3 hown hK hP 1 rfl rfl 0 (by decide) (hts (.fieldLink RX3 25 "ScissorsTable$Hang" "rank" "I") (by decide +kernel)) (fun _ h9 => h9) rfl dX3_next_24 ?_
  refine lv_iload_n hx hb dX3_next_27 rfl (lv_at hl 2 rfl) ?_
  refine va_iast hx hb hK hP hD hS 2 1 rfl rfl (by show ¬ (_ ∨ _); decide) dX3_next_28 (fun H locs hP hD hS => ?_)
  have hP : va_P (dC, dI) vwCl [(xSum, .inr (8, [.ref sM, .ref sP, .ref sA, .int 0])), (xHan, .inr (3, [.int 0, .int 3, .int 1, .ref hH, .ref hR, .ref hT, .ref hM])), (hH, .inl (cI, 7, (.inl (upd fh (0 : Int32).toNatClampNeg p1)))), (hT, .inl (cJ, 7, (.inr (.inl ft))))] H := hP
  have hD : va_D A [(xSum, .inr (8, [.ref sM, .ref sP, .ref sA, .int 0])), (xHan, .inr (3, [.int 0, .int 3, .int 1, .ref hH, .ref hR, .ref hT, .ref hM])), (hH, .inl (cI, 7, (.inl (upd fh (0 : Int32).toNatClampNeg p1)))), (hT, .inl (cJ, 7, (.inr (.inl ft))))] := hD
  refine lv_iconst (v := 0) hx hb dX3_next_29 (by decide) ?_
  refine lv_istore_n (lv' := [(3, .int 0), (0, .ref xHan), (1, .ref xSum), (2, .int p1)]) hx hb dX3_next_30 rfl hl (by decide) rfl (fun ls hl => ?_)
  refine lv_iload_n hx hb dX3_next_31 rfl (lv_at hl 0 rfl) ?_
  refine lv_aload_n hx hb dX3_next_32 rfl (lv_at hl 1 rfl) ?_
  refine va_get (D := (dC, dI)) (ci := 3) (v := .int 0) (C := RX3) (T := TX3) (N := 7) hx hb hts hiX3 hown hK hP 1 rfl rfl 0 (by decide) (hts (.fieldLink RX3 25 "ScissorsTable$Hang" "rank" "I") (by decide +kernel)) (fun _ h9 => h9) rfl dX3_next_33 ?_
  refine lv_icmp_gt (tgt := 74) hx hb dX3_next_36 (by decide) (fun c => absurd c (by decide)) (fun _ => ?_)
  refine lv_aload_n hx hb dX3_next_39 rfl (lv_at hl 1 rfl) ?_
  refine va_get (D := (dC, dI)) (ci := 3) (v := .ref hT) (C := RX3) (T := TX3) (N := 7) hx hb hts hiX3 hown hK hP 1 rfl rfl 5 (by decide) (hts (.fieldLink RX3 18 "ScissorsTable$Hang" "trial" "[J") (by decide +kernel)) (fun _ h9 => h9) rfl dX3_next_40 ?_
  refine lv_iload_n hx hb dX3_next_43 rfl (lv_at hl 0 rfl) ?_
  refine lv_aload_n hx hb dX3_next_44 rfl (lv_at hl 1 rfl) ?_
  refine lv_aload_n hx hb dX3_next_45 rfl (lv_at hl 2 rfl) ?_
  refine lv_iconst (v := 0) hx hb dX3_next_46 (by decide) ?_
  refine lv_iconst (v := 1) hx hb dX3_next_47 (by decide) ?_
  refine lv_iload_n hx hb dX3_next_48 rfl (lv_at hl 0 rfl) ?_
  refine lv_ishl hx hb dX3_next_49 ?_
  refine lv_topi (fun x_1 ex_1 => ?_)
  obtain rfl : x_1 = 1 := ex_1.trans (by first | rfl | decide)
  have hPc := hP.sub (ws' := [(xHan, .inr (3, [.int 0, .int 3, .int 1, .ref hH, .ref hR, .ref hT, .ref hM]))]) [1] rfl
  have hDc := hD.sub (ws' := [(xHan, .inr (3, [.int 0, .int 3, .int 1, .ref hH, .ref hR, .ref hT, .ref hM]))]) [1] (by decide) rfl
  have hFc := va_free (wc := [(xHan, .inr (3, [.int 0, .int 3, .int 1, .ref hH, .ref hR, .ref hT, .ref hM]))]) hD hS hA [1] rfl
  refine va_calll (va_runV (As := [.ref xSum, .int 0, .int 1]) (rest := [.int 0, .ref hT]) ⟨hx, hb, hml, hown, hts⟩ (c_X3_minor_31 l dC dI cB cI cJ H.size xHan hH hR hT hM xSum 1) (cwV 3 hts gX3_next_X3_minor rfl rfl rfl (by decide +kernel) ⟨Nat.le_of_ble_eq_true rfl, Nat.le_of_ble_eq_true rfl⟩) ⟨fun a U g mk q => by obtain ⟨q0, q1, qP, qK, qD⟩ := q; exact ⟨q0, q1, qP, va_K.moved (u := U) (U := U.calling g mk a) (Vm.Alike.refl U.vm) qK, qD⟩, va_recv hK hP (ci := 3) (q0 := 1) rfl rfl, fun U hU hW => ⟨rfl, by rw [hU], by rw [hU]; exact hPc, va_K.moved hW.alike hK, hDc.weaken (fun _ _ _ _ => trivial)⟩⟩ rfl rfl hl.1 rfl (lv_room (Nat.le_of_ble_eq_true rfl)) dX3_next_50 ⟨Nat.le_of_ble_eq_true rfl, Nat.le_of_ble_eq_true rfl⟩) hS (fun q _ h => hFc q h) hFc (fun r_2 u t H1 locs ht hvm hw hB hz1 hk1 hS => ?_)
  obtain ⟨hP1, hK1, hD1⟩ := hB
  rw [ht] at hP1
  obtain ⟨hP, hD⟩ := va_join (wr := [(xSum, .inr (8, [.ref sM, .ref sP, .ref sA, .int 0])), (hH, .inl (cI, 7, (.inl (upd fh (0 : Int32).toNatClampNeg p1)))), (hT, .inl (cJ, 7, (.inr (.inl ft))))]) (w1 := [(xHan, .inr (3, [.int 0, .int 3, .int 1, .ref hH, .ref hR, .ref hT, .ref hM]))]) hP hD [1] [0, 2, 3] rfl rfl (by decide) (by decide) hk1 hFc hP1 hD1
  generalize H1 = H at hP hS ⊢
  have hP : va_P (dC, dI) vwCl [(xSum, .inr (8, [.ref sM, .ref sP, .ref sA, .int 0])), (hH, .inl (cI, 7, (.inl (upd fh (0 : Int32).toNatClampNeg p1)))), (hT, .inl (cJ, 7, (.inr (.inl ft)))), (xHan, .inr (3, [.int 0, .int 3, .int 1, .ref hH, .ref hR, .ref hT, .ref hM]))] H := hP
  have hD : va_D A [(xSum, .inr (8, [.ref sM, .ref sP, .ref sA, .int 0])), (hH, .inl (cI, 7, (.inl (upd fh (0 : Int32).toNatClampNeg p1)))), (hT, .inl (cJ, 7, (.inr (.inl ft)))), (xHan, .inr (3, [.int 0, .int 3, .int 1, .ref hH, .ref hR, .ref hT, .ref hM]))] := hD
  have hr_2 := hw
  obtain rfl : r_2 = 1 := hr_2
  refine lv_iload_n hx hb dX3_next_53 rfl (lv_at hl 0 rfl) ?_
  refine lv_iconst (v := 1) hx hb dX3_next_54 (by decide) ?_
  refine lv_iand hx hb dX3_next_55 ?_
  refine lv_topi (fun x_3 ex_3 => ?_)
  obtain rfl : x_3 = 0 := ex_3.trans (by first | rfl | decide)
  refine lv_iconst (v := 1) hx hb dX3_next_56 (by decide) ?_
  refine lv_icmp_ne (tgt := 64) hx hb dX3_next_57 (by decide) (fun _ => ?_) (fun c => absurd c (by decide))
  refine lv_iconst (v := 1) hx hb dX3_next_64 (by decide) ?_
  refine lv_i2l (v := 1) hx hb dX3_next_65 (by decide) ?_
  refine lv_lmul hx hb dX3_next_66 ?_
  refine lv_topl (fun x_4 ex_4 => ?_)
  obtain rfl : x_4 = 1 := ex_4.trans (by first | rfl | decide)
  refine va_last hx hb hK hP hD hS 2 2 rfl rfl (by show ¬ (_ ∨ _); decide) dX3_next_67 (fun H locs hP hD hS => ?_)
  have hP : va_P (dC, dI) vwCl [(xSum, .inr (8, [.ref sM, .ref sP, .ref sA, .int 0])), (hH, .inl (cI, 7, (.inl (upd fh (0 : Int32).toNatClampNeg p1)))), (hT, .inl (cJ, 7, (.inr (.inl (vp_updL ft (0 : Int32).toNatClampNeg 1))))), (xHan, .inr (3, [.int 0, .int 3, .int 1, .ref hH, .ref hR, .ref hT, .ref hM]))] H := hP
  have hD : va_D A [(xSum, .inr (8, [.ref sM, .ref sP, .ref sA, .int 0])), (hH, .inl (cI, 7, (.inl (upd fh (0 : Int32).toNatClampNeg p1)))), (hT, .inl (cJ, 7, (.inr (.inl (vp_updL ft (0 : Int32).toNatClampNeg 1))))), (xHan, .inr (3, [.int 0, .int 3, .int 1, .ref hH, .ref hR, .ref hT, .ref hM]))] := hD
  refine lv_iinc (v := 1) (lv' := [(3, .int 1), (0, .ref xHan), (1, .ref xSum), (2, .int p1)]) hx hb dX3_next_68 hl (k := 0) rfl (by decide) (by decide) rfl (fun ls hl => ?_)
  refine lv_goto (tgt := 31) hx hb dX3_next_71 (by decide) ?_
  refine lv_iload_n hx hb dX3_next_31 rfl (lv_at hl 0 rfl) ?_
  refine lv_aload_n hx hb dX3_next_32 rfl (lv_at hl 1 rfl) ?_
  refine va_get (D := (dC, dI)) (ci := 3) (v := .int 0) (C := RX3) (T := TX3) (N := 7) hx hb hts hiX3 hown hK hP 3 rfl rfl 0 (by decide) (hts (.fieldLink RX3 25 "ScissorsTable$Hang" "rank" "I") (by decide +kernel)) (fun _ h9 => h9) rfl dX3_next_33 ?_
  refine lv_icmp_gt (tgt := 74) hx hb dX3_next_36 (by decide) (fun _ => ?_) (fun c => absurd (by decide) c)
  refine lv_aload_n hx hb dX3_next_74 rfl (lv_at hl 1 rfl) ?_
  refine lv_aload_n hx hb dX3_next_75 rfl (lv_at hl 2 rfl) ?_
  have hPc := hP.sub (ws' := [(xSum, .inr (8, [.ref sM, .ref sP, .ref sA, .int 0]))]) [0] rfl
  have hDc := hD.sub (ws' := [(xSum, .inr (8, [.ref sM, .ref sP, .ref sA, .int 0]))]) [0] (by decide) rfl
  have hFc := va_free (wc := [(xSum, .inr (8, [.ref sM, .ref sP, .ref sA, .int 0]))]) hD hS hA [0] rfl
  refine va_calli (va_runV (As := [.ref xSum]) (rest := []) ⟨hx, hb, hml, hown, hts⟩ (c_X3_firstOpenRow_31 l dC dI cB cI cJ H.size xSum sM sP sA xHan) (cwV 1 hts gX3_next_X3_firstOpenRow rfl rfl rfl (by decide +kernel) ⟨Nat.le_of_ble_eq_true rfl, Nat.le_of_ble_eq_true rfl⟩) ⟨fun a U g mk q => by obtain ⟨q0, q1, qP, qK, qD⟩ := q; exact ⟨q0, q1, qP, va_K.moved (u := U) (U := U.calling g mk a) (Vm.Alike.refl U.vm) qK, qD⟩, va_recv hK hP (ci := 3) (q0 := 3) rfl rfl, fun U hU hW => ⟨rfl, by rw [hU], by rw [hU]; exact hPc, va_K.moved hW.alike hK, hDc.weaken (fun _ _ _ _ => trivial)⟩⟩ rfl rfl hl.1 rfl (lv_room (Nat.le_of_ble_eq_true rfl)) dX3_next_76 ⟨Nat.le_of_ble_eq_true rfl, Nat.le_of_ble_eq_true rfl⟩) hS (fun q _ h => hFc q h) hFc (fun r_5 u t H1 locs ht hvm hw hB hz1 hk1 hS => ?_)
  obtain ⟨hP1, hK1, hD1⟩ := hB
  rw [ht] at hP1
  obtain ⟨hP, hD⟩ := va_join (wr := [(hH, .inl (cI, 7, (.inl (upd fh (0 : Int32).toNatClampNeg p1)))), (hT, .inl (cJ, 7, (.inr (.inl (vp_updL ft (0 : Int32).toNatClampNeg 1))))), (xHan, .inr (3, [.int 0, .int 3, .int 1, .ref hH, .ref hR, .ref hT, .ref hM]))]) (w1 := [(xSum, .inr (8, [.ref sM, .ref sP, .ref sA, .int 0]))]) hP hD [0] [1, 2, 3] rfl rfl (by decide) (by decide) hk1 hFc hP1 hD1
  generalize H1 = H at hP hS ⊢
  have hP : va_P (dC, dI) vwCl [(hH, .inl (cI, 7, (.inl (upd fh (0 : Int32).toNatClampNeg p1)))), (hT, .inl (cJ, 7, (.inr (.inl (vp_updL ft (0 : Int32).toNatClampNeg 1))))), (xHan, .inr (3, [.int 0, .int 3, .int 1, .ref hH, .ref hR, .ref hT, .ref hM])), (xSum, .inr (8, [.ref sM, .ref sP, .ref sA, .int 0]))] H := hP
  have hD : va_D A [(hH, .inl (cI, 7, (.inl (upd fh (0 : Int32).toNatClampNeg p1)))), (hT, .inl (cJ, 7, (.inr (.inl (vp_updL ft (0 : Int32).toNatClampNeg 1))))), (xHan, .inr (3, [.int 0, .int 3, .int 1, .ref hH, .ref hR, .ref hT, .ref hM])), (xSum, .inr (8, [.ref sM, .ref sP, .ref sA, .int 0]))] := hD
  have hr_5 := hw
  obtain rfl : r_5 = (-1) := hr_5
  refine lv_istore_n (lv' := [(3, .int (-1)), (0, .ref xHan), (1, .ref xSum), (2, .int p1)]) hx hb dX3_next_79 rfl hl (by decide) rfl (fun ls hl => ?_)
  refine lv_iload_n hx hb dX3_next_80 rfl (lv_at hl 0 rfl) ?_
  refine lv_if_lt (tgt := 107) hx hb dX3_next_81 (by decide) (fun _ => ?_) (fun c => absurd (by decide) c)
  refine lv_aload_n hx hb dX3_next_107 rfl (lv_at hl 1 rfl) ?_
  refine va_get (D := (dC, dI)) (ci := 3) (v := .int 1) (C := RX3) (T := TX3) (N := 7) hx hb hts hiX3 hown hK hP 2 rfl rfl 2 (by decide) (hts (.fieldLink RX3 32 "ScissorsTable$Hang" "related" "Z") (by decide +kernel)) (fun _ h9 => h9) rfl dX3_next_108 ?_
  refine lv_if_ne (tgt := 123) hx hb dX3_next_111 (by decide) (fun _ => ?_) (fun c => absurd c (by decide))
  refine lv_aload_n hx hb dX3_next_123 rfl (lv_at hl 1 rfl) ?_
  refine lv_dup hx hb dX3_next_124 rfl ?_
  refine va_get (D := (dC, dI)) (ci := 3) (v := .int 3) (C := RX3) (T := TX3) (N := 7) hx hb hts hiX3 hown hK hP 2 rfl rfl 1 (by decide) (hts (.fieldLink RX3 29 "ScissorsTable$Hang" "taken" "I") (by decide +kernel)) (fun _ h9 => h9) rfl dX3_next_125 ?_
  refine lv_iconst (v := 1) hx hb dX3_next_128 (by decide) ?_
  refine lv_iadd hx hb dX3_next_129 ?_
  refine lv_topi (fun x_6 ex_6 => ?_)
  obtain rfl : x_6 = 4 := ex_6.trans (by first | rfl | decide)
  refine va_put (D := (dC, dI)) (ci := 3) (v := .int 4) (ty := .int) (C := RX3) (T := TX3) (N := 7) hx hb hts hiX3 tyX3 tyX3_ok nmX3 hown hK hP hD hS 2 rfl rfl 1 (by decide) (hts (.fieldLink RX3 29 "ScissorsTable$Hang" "taken" "I") (by decide +kernel)) (fun _ h9 => h9) rfl (by decide +kernel) rfl rfl (Nat.le_of_ble_eq_true rfl) dX3_next_130 (fun H locs hP hD hS => ?_)
  have hP : va_P (dC, dI) vwCl [(hH, .inl (cI, 7, (.inl (upd fh (0 : Int32).toNatClampNeg p1)))), (hT, .inl (cJ, 7, (.inr (.inl (vp_updL ft (0 : Int32).toNatClampNeg 1))))), (xHan, .inr (3, [.int 0, .int 4, .int 1, .ref hH, .ref hR, .ref hT, .ref hM])), (xSum, .inr (8, [.ref sM, .ref sP, .ref sA, .int 0]))] H := hP
  have hD : va_D A [(hH, .inl (cI, 7, (.inl (upd fh (0 : Int32).toNatClampNeg p1)))), (hT, .inl (cJ, 7, (.inr (.inl (vp_updL ft (0 : Int32).toNatClampNeg 1))))), (xHan, .inr (3, [.int 0, .int 4, .int 1, .ref hH, .ref hR, .ref hT, .ref hM])), (xSum, .inr (8, [.ref sM, .ref sP, .ref sA, .int 0]))] := hD
  have hP9 := hP.sub (ws' := [(xHan, .inr (3, [.int 0, .int 4, .int 1, .ref hH, .ref hR, .ref hT, .ref hM])), (xSum, .inr (8, [.ref sM, .ref sP, .ref sA, .int 0])), (hH, .inl (cI, 7, (.inl (upd fh (0 : Int32).toNatClampNeg p1)))), (hT, .inl (cJ, 7, (.inr (.inl (vp_updL ft (0 : Int32).toNatClampNeg 1)))))]) [2, 3, 0, 1] rfl
  have hD9 := hD.sub (ws' := [(xHan, .inr (3, [.int 0, .int 4, .int 1, .ref hH, .ref hR, .ref hT, .ref hM])), (xSum, .inr (8, [.ref sM, .ref sP, .ref sA, .int 0])), (hH, .inl (cI, 7, (.inl (upd fh (0 : Int32).toNatClampNeg p1)))), (hT, .inl (cJ, 7, (.inr (.inl (vp_updL ft (0 : Int32).toNatClampNeg 1)))))]) [2, 3, 0, 1] (by decide) rfl
  refine W.widen (k := 0) (n := 0) (Nat.le_of_ble_eq_true rfl) (Nat.le_of_ble_eq_true rfl) ?_
  exact W.vret hx hb hr (fun t ht hW => ⟨⟨(), rfl, trivial, by rw [ht]; exact hP9, va_K.moved hW.alike hK, hD9⟩, hS.F ht⟩) hS.2.2 dX3_next_133
