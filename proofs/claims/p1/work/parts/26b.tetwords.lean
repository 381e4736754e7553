
def nq_A : List Cond := (nq_at RX10 149).filter goodWord
def nq_B : List Cond := [.declares (Bundle.initS "java/lang/RuntimeException"), .declares (Bundle.initS "java/lang/Exception"), .declares (Bundle.initS Bundle.tN), .castable nq_N nq_N]
def nq_Bw (U : State) : Prop := va_Nw (.declares (Bundle.initS "java/lang/RuntimeException")) U ∧ va_Nw (.declares (Bundle.initS "java/lang/Exception")) U ∧ va_Nw (.declares (Bundle.initS Bundle.tN)) U ∧ va_Nw (.castable nq_N nq_N) U
theorem nq_Bw_same {u U : State} (h : u.vm = U.vm) (k : nq_Bw u) : nq_Bw U := ⟨va_Nw.same rfl h k.1, va_Nw.same rfl h k.2.1, va_Nw.same rfl h k.2.2.1, va_Nw.same rfl h k.2.2.2⟩
theorem nq_Bw_warm {s U : State} (hW : s.WarmedH U.vm) (k : nq_Bw s) : nq_Bw U := ⟨va_Nw.warmD hW k.1, va_Nw.warmD hW k.2.1, va_Nw.warmD hW k.2.2.1, va_Nw.warmC hW k.2.2.2⟩
theorem nq_Bw_all {args : Array Value} {s : State} (k : nq_Bw s) : ∀ w ∈ nq_B, w.before args s = true := vx_c (va_Nw.use rfl k.1) (vx_c (va_Nw.use rfl k.2.1) (vx_c (va_Nw.use rfl k.2.2.1) (vx_c (va_Nw.use rfl k.2.2.2) vx_n)))
set_option maxRecDepth 100000 in
theorem nq_h2 : ∀ w ∈ (nq_at RX10 149).filter (fun w => !goodWord w), w ∈ nq_B := by decide +kernel
def nq_wX : List Cond := .code yX10_tet cX10_tet 3 (some .int) :: (([.classLink RX10 145 nq_N, .initialized nq_N, .fieldLink RX10 28 "ScissorsTable" "bag" "LScissorsTable$Bag;", .fieldLink RX10 152 "ScissorsTable$Bag" "solids" "[I", .fieldLink RX10 155 "ScissorsTable$Bag" "sixes" "[I", .methodLink RX10 141 yX1_has, .instanceMethod yX1_has, .selects RX1 yX1_has yX1_has, .initialized RX1, .code yX1_has cX1_has 2 (some .boolean), .fieldLink RX1 27 "ScissorsTable$Bag" "size" "I"] ++ wsX100 ++ wsX10) ++ nq_A)
def nq_wL : List Cond := .codeWith yL_tet cL_tet 5 (some .int) [(0, 10, 13, 13)] :: (([.classLink RL 13 nq_N, .methodLink RL 7 yX10_tet, .instanceMethod yX10_tet, .selects RX10 yX10_tet yX10_tet, .initialized RX10, .code yX10_tet cX10_tet 3 (some .int), .classLink RX10 145 nq_N, .initialized nq_N, .fieldLink RX10 28 "ScissorsTable" "bag" "LScissorsTable$Bag;", .fieldLink RX10 152 "ScissorsTable$Bag" "solids" "[I", .fieldLink RX10 155 "ScissorsTable$Bag" "sixes" "[I", .methodLink RX10 141 yX1_has, .instanceMethod yX1_has, .selects RX1 yX1_has yX1_has, .initialized RX1, .code yX1_has cX1_has 2 (some .boolean), .fieldLink RX1 27 "ScissorsTable$Bag" "size" "I"] ++ wsX100 ++ wsX10) ++ nq_A)
set_option maxRecDepth 100000 in
theorem nq_A_good : nq_A.all goodWord = true := by decide +kernel
set_option maxRecDepth 100000 in
theorem nq_ot : ∀ w ∈ Cond.classLink RX10 145 nq_N :: Cond.initialized nq_N :: nq_at RX10 149, vx_ot w = true := by decide +kernel
set_option maxRecDepth 100000 in
theorem nq_A_in : GoodIn lw_tbl nq_A := goodIn_r _ [136, 1173, 1182, 1184, 1187, 1189, 1174, 1175, 146, 147, 1176, 1181, 1185, 1205, 1163, 1206, 1165, 1207, 1167, 1177, 1179, 1169, 1201, 1202, 1204, 1169, 1192, 1193, 1194, 1195, 1195, 1196, 1197, 1198, 1198, 1199, 1200, 1201, 1191, 1152, 1160, 1161, 1162, 1164, 1166, 1168, 1172, 1171, 1170] (by decide +kernel) nq_A_good
set_option maxRecDepth 100000 in
theorem nq_g1 : GoodIn nq_wX (wsV RX10 141 RX1 yX1_has wsX1_has) := goodIn_app (goodIn_of _ (by decide +kernel)) (goodIn_r _ [10, 11, 25, 26, 27, 28, 29, 30] (by decide +kernel) (by decide +kernel))
set_option maxRecDepth 100000 in
theorem nq_g2 : GoodIn nq_wL (wsV RL 7 RX10 yX10_tet nq_wX) := goodIn_app (goodIn_of _ (by decide +kernel)) (goodIn_ca (goodIn_r _ [6, 7, 8, 9, 10, 11, 12, 13, 14, 15, 16, 17, 18, 19, 20, 21, 22, 23, 24, 25, 26, 27, 28, 29, 30, 31, 32, 33, 34, 35, 36] (by decide +kernel) (by decide +kernel)) (goodIn_sub (fun _ h => List.mem_cons_of_mem _ (List.mem_append_right _ h)) nq_A_good))
set_option maxRecDepth 100000 in
theorem nq_g3a : GoodIn lw_tbl ([.methodLink RL 43 yL_tet, .static yL_tet, .initialized RL, .codeWith yL_tet cL_tet 5 (some .int) [(0, 10, 13, 13)]] ++ ([.classLink RL 13 nq_N, .methodLink RL 7 yX10_tet, .instanceMethod yX10_tet, .selects RX10 yX10_tet yX10_tet, .initialized RX10, .code yX10_tet cX10_tet 3 (some .int), .classLink RX10 145 nq_N, .initialized nq_N, .fieldLink RX10 28 "ScissorsTable" "bag" "LScissorsTable$Bag;", .fieldLink RX10 152 "ScissorsTable$Bag" "solids" "[I", .fieldLink RX10 155 "ScissorsTable$Bag" "sixes" "[I", .methodLink RX10 141 yX1_has, .instanceMethod yX1_has, .selects RX1 yX1_has yX1_has, .initialized RX1, .code yX1_has cX1_has 2 (some .boolean), .fieldLink RX1 27 "ScissorsTable$Bag" "size" "I"] ++ wsX100 ++ wsX10)) := goodIn_r _ [1143, 1144, 119, 1145, 1146, 1147, 1148, 1149, 120, 1150, 1151, 139, 438, 207, 209, 730, 731, 732, 123, 733, 212, 449, 451, 453, 455, 457, 459, 461, 463, 465, 467, 469, 471, 473, 215, 217, 219, 221, 223, 225] (by decide +kernel) (by decide +kernel)
theorem nq_g3 : GoodIn lw_tbl (va_wsS RL 43 yL_tet nq_wL) := fun w h => by
  rcases List.mem_append.mp h with h | h
  · exact nq_g3a w (List.mem_append_left _ (by
      rcases List.mem_cons.mp h with h | h
      · exact List.mem_cons.mpr (Or.inl h)
      · rcases List.mem_cons.mp h with h | h
        · exact List.mem_cons_of_mem _ (List.mem_cons.mpr (Or.inl h))
        · rcases List.mem_cons.mp h with h | h
          · exact List.mem_cons_of_mem _ (List.mem_cons_of_mem _ (List.mem_cons.mpr (Or.inl h)))
          · exact absurd h List.not_mem_nil))
  · rcases List.mem_cons.mp h with h | h
    · exact nq_g3a w (List.mem_append_left _ (List.mem_cons_of_mem _ (List.mem_cons_of_mem _ (List.mem_cons_of_mem _ (List.mem_cons.mpr (Or.inl h))))))
    · rcases List.mem_append.mp h with h | h
      · exact nq_g3a w (List.mem_append_right _ h)
      · exact nq_A_in w h
