set_option maxRecDepth 20000 in
theorem ggX5_firstFault_X5_begin : GoodIn wsX5_firstFault wsX5_begin := goodIn_r _ [7, 2, 1, 63, 64, 65, 66, 67, 68, 69] (by decide +kernel) (by decide +kernel)
set_option maxRecDepth 20000 in
theorem gX5_firstFault_X5_begin : GoodIn wsX5_firstFault (wsV RX5 19 RX5 yX5_begin wsX5_begin) := goodIn_app (goodIn_of _ (by decide +kernel)) ggX5_firstFault_X5_begin
set_option maxRecDepth 20000 in
theorem ggX5_firstFault_X5_readClause : GoodIn wsX5_firstFault wsX5_readClause := goodIn_r _ [11, 12, 13, 1, 2, 14, 15, 16, 17, 6, 18, 19, 20, 21, 22, 23, 24, 25, 26, 27, 28, 29, 30, 31, 32, 33, 34, 35, 36, 37, 38, 39, 40, 41, 42, 43, 44, 45, 46, 47, 48, 49, 50, 51, 52, 53, 54, 55, 56, 57, 58, 63, 64, 65, 66, 67, 68, 69, 70, 71] (by decide +kernel) (by decide +kernel)
set_option maxRecDepth 20000 in
theorem gX5_firstFault_X5_readClause : GoodIn wsX5_firstFault (wsV RX5 24 RX5 yX5_readClause wsX5_readClause) := goodIn_app (goodIn_of _ (by decide +kernel)) ggX5_firstFault_X5_readClause
set_option maxRecDepth 20000 in
theorem ggX5_firstFault_X5_goesOn : GoodIn wsX5_firstFault wsX5_goesOn := goodIn_r _ [62, 1, 2, 23, 24, 15, 16, 17, 6, 18, 19, 20, 21, 22, 25, 34, 35, 36, 37, 63, 64, 65, 66, 67, 68, 69, 70, 71] (by decide +kernel) (by decide +kernel)
set_option maxRecDepth 20000 in
theorem gX5_firstFault_X5_goesOn : GoodIn wsX5_firstFault (wsV RX5 27 RX5 yX5_goesOn wsX5_goesOn) := goodIn_app (goodIn_of _ (by decide +kernel)) ggX5_firstFault_X5_goesOn
theorem dX5_firstFault_0 : decode cX5_firstFault 0 = .ok (.aload_n 0, 1) := by decide +kernel
theorem dX5_firstFault_1 : decode cX5_firstFault 1 = .ok (.invokevirtual 19, 3) := by decide +kernel
theorem dX5_firstFault_4 : decode cX5_firstFault 4 = .ok (.iconst 1, 1) := by decide +kernel
theorem dX5_firstFault_5 : decode cX5_firstFault 5 = .ok (.istore_n 1, 1) := by decide +kernel
theorem dX5_firstFault_6 : decode cX5_firstFault 6 = .ok (.iconst 0, 1) := by decide +kernel
theorem dX5_firstFault_7 : decode cX5_firstFault 7 = .ok (.istore_n 2, 1) := by decide +kernel
theorem dX5_firstFault_8 : decode cX5_firstFault 8 = .ok (.iload_n 2, 1) := by decide +kernel
theorem dX5_firstFault_9 : decode cX5_firstFault 9 = .ok (.sipush 600, 3) := by decide +kernel
theorem dX5_firstFault_12 : decode cX5_firstFault 12 = .ok (.if_icmp .gt 22, 3) := by decide +kernel
theorem dX5_firstFault_15 : decode cX5_firstFault 15 = .ok (.iload_n 1, 1) := by decide +kernel
theorem dX5_firstFault_16 : decode cX5_firstFault 16 = .ok (.ifCond .eq 18, 3) := by decide +kernel
theorem dX5_firstFault_19 : decode cX5_firstFault 19 = .ok (.aload_n 0, 1) := by decide +kernel
theorem dX5_firstFault_20 : decode cX5_firstFault 20 = .ok (.invokevirtual 24, 3) := by decide +kernel
theorem dX5_firstFault_23 : decode cX5_firstFault 23 = .ok (.aload_n 0, 1) := by decide +kernel
theorem dX5_firstFault_24 : decode cX5_firstFault 24 = .ok (.invokevirtual 27, 3) := by decide +kernel
theorem dX5_firstFault_27 : decode cX5_firstFault 27 = .ok (.istore_n 1, 1) := by decide +kernel
theorem dX5_firstFault_28 : decode cX5_firstFault 28 = .ok (.iinc 2 1, 3) := by decide +kernel
theorem dX5_firstFault_31 : decode cX5_firstFault 31 = .ok (.goto (-23), 3) := by decide +kernel
theorem dX5_firstFault_34 : decode cX5_firstFault 34 = .ok (.aload_n 0, 1) := by decide +kernel
theorem dX5_firstFault_35 : decode cX5_firstFault 35 = .ok (.getfield 31, 3) := by decide +kernel
theorem dX5_firstFault_38 : decode cX5_firstFault 38 = .ok (.ifCond .eq 10, 3) := by decide +kernel
theorem dX5_firstFault_41 : decode cX5_firstFault 41 = .ok (.aload_n 0, 1) := by decide +kernel
theorem dX5_firstFault_42 : decode cX5_firstFault 42 = .ok (.getfield 35, 3) := by decide +kernel
theorem dX5_firstFault_45 : decode cX5_firstFault 45 = .ok (.goto 4, 3) := by decide +kernel
theorem dX5_firstFault_49 : decode cX5_firstFault 49 = .ok (.ireturn, 1) := by decide +kernel
theorem dX5_begin_0 : decode cX5_begin 0 = .ok (.aload_n 0, 1) := by decide +kernel
theorem dX5_begin_1 : decode cX5_begin 1 = .ok (.iconst 0, 1) := by decide +kernel
theorem dX5_begin_2 : decode cX5_begin 2 = .ok (.putfield 35, 3) := by decide +kernel
theorem dX5_begin_5 : decode cX5_begin 5 = .ok (.aload_n 0, 1) := by decide +kernel
theorem dX5_begin_6 : decode cX5_begin 6 = .ok (.iconst 0, 1) := by decide +kernel
theorem dX5_begin_7 : decode cX5_begin 7 = .ok (.putfield 31, 3) := by decide +kernel
theorem dX5_begin_10 : decode cX5_begin 10 = .ok (.return_, 1) := by decide +kernel
set_option maxRecDepth 20000 in
theorem ggX5_goesOn_X5_skipBlanks : GoodIn wsX5_goesOn wsX5_skipBlanks := goodIn_r _ [9, 1, 2, 10, 11, 12, 8, 13, 3, 4, 14, 19, 20, 21, 22, 23, 24, 25, 26, 27] (by decide +kernel) (by decide +kernel)
set_option maxRecDepth 20000 in
theorem gX5_goesOn_X5_skipBlanks : GoodIn wsX5_goesOn (wsV RX5 39 RX5 yX5_skipBlanks wsX5_skipBlanks) := goodIn_app (goodIn_of _ (by decide +kernel)) ggX5_goesOn_X5_skipBlanks
theorem dX5_goesOn_0 : decode cX5_goesOn 0 = .ok (.aload_n 0, 1) := by decide +kernel
theorem dX5_goesOn_1 : decode cX5_goesOn 1 = .ok (.invokevirtual 39, 3) := by decide +kernel
theorem dX5_goesOn_4 : decode cX5_goesOn 4 = .ok (.aload_n 0, 1) := by decide +kernel
theorem dX5_goesOn_5 : decode cX5_goesOn 5 = .ok (.getfield 31, 3) := by decide +kernel
theorem dX5_goesOn_8 : decode cX5_goesOn 8 = .ok (.ifCond .ne 17, 3) := by decide +kernel
theorem dX5_goesOn_25 : decode cX5_goesOn 25 = .ok (.iconst 0, 1) := by decide +kernel
theorem dX5_goesOn_26 : decode cX5_goesOn 26 = .ok (.ireturn, 1) := by decide +kernel
set_option maxRecDepth 20000 in
theorem ggX5_readClause_X5_skipBlanks : GoodIn wsX5_readClause wsX5_skipBlanks := goodIn_r _ [10, 3, 4, 11, 12, 13, 9, 14, 15, 16, 17, 51, 52, 53, 54, 55, 56, 57, 58, 59] (by decide +kernel) (by decide +kernel)
set_option maxRecDepth 20000 in
theorem gX5_readClause_X5_skipBlanks : GoodIn wsX5_readClause (wsV RX5 39 RX5 yX5_skipBlanks wsX5_skipBlanks) := goodIn_app (goodIn_of _ (by decide +kernel)) ggX5_readClause_X5_skipBlanks
set_option maxRecDepth 20000 in
theorem ggX5_readClause_X5_sign : GoodIn wsX5_readClause wsX5_sign := goodIn_r _ [14, 4, 15, 16, 17, 51, 52, 53, 54, 55, 56, 57, 58, 59] (by decide +kernel) (by decide +kernel)
set_option maxRecDepth 20000 in
theorem gX5_readClause_X5_sign : GoodIn wsX5_readClause (wsV RX5 52 RX5 yX5_sign wsX5_sign) := goodIn_app (goodIn_of _ (by decide +kernel)) ggX5_readClause_X5_sign
theorem dX5_readClause_0 : decode cX5_readClause 0 = .ok (.aload_n 0, 1) := by decide +kernel
theorem dX5_readClause_1 : decode cX5_readClause 1 = .ok (.iconst 0, 1) := by decide +kernel
theorem dX5_readClause_2 : decode cX5_readClause 2 = .ok (.putfield 49, 3) := by decide +kernel
theorem dX5_readClause_5 : decode cX5_readClause 5 = .ok (.aload_n 0, 1) := by decide +kernel
theorem dX5_readClause_6 : decode cX5_readClause 6 = .ok (.invokevirtual 39, 3) := by decide +kernel
theorem dX5_readClause_9 : decode cX5_readClause 9 = .ok (.aload_n 0, 1) := by decide +kernel
theorem dX5_readClause_10 : decode cX5_readClause 10 = .ok (.aload_n 0, 1) := by decide +kernel
theorem dX5_readClause_11 : decode cX5_readClause 11 = .ok (.invokevirtual 52, 3) := by decide +kernel
theorem dX5_readClause_14 : decode cX5_readClause 14 = .ok (.putfield 56, 3) := by decide +kernel
theorem dX5_readClause_17 : decode cX5_readClause 17 = .ok (.aload_n 0, 1) := by decide +kernel
theorem dX5_readClause_18 : decode cX5_readClause 18 = .ok (.getfield 56, 3) := by decide +kernel
theorem dX5_readClause_21 : decode cX5_readClause 21 = .ok (.bipush 116, 2) := by decide +kernel
theorem dX5_readClause_23 : decode cX5_readClause 23 = .ok (.if_icmp .eq 27, 3) := by decide +kernel
theorem dX5_readClause_26 : decode cX5_readClause 26 = .ok (.aload_n 0, 1) := by decide +kernel
theorem dX5_readClause_27 : decode cX5_readClause 27 = .ok (.getfield 56, 3) := by decide +kernel
theorem dX5_readClause_30 : decode cX5_readClause 30 = .ok (.bipush 98, 2) := by decide +kernel
theorem dX5_readClause_32 : decode cX5_readClause 32 = .ok (.if_icmp .eq 18, 3) := by decide +kernel
theorem dX5_readClause_35 : decode cX5_readClause 35 = .ok (.aload_n 0, 1) := by decide +kernel
theorem dX5_readClause_36 : decode cX5_readClause 36 = .ok (.getfield 56, 3) := by decide +kernel
theorem dX5_readClause_39 : decode cX5_readClause 39 = .ok (.bipush 112, 2) := by decide +kernel
theorem dX5_readClause_41 : decode cX5_readClause 41 = .ok (.if_icmp .eq 9, 3) := by decide +kernel
theorem dX5_readClause_44 : decode cX5_readClause 44 = .ok (.aload_n 0, 1) := by decide +kernel
theorem dX5_readClause_45 : decode cX5_readClause 45 = .ok (.iconst 1, 1) := by decide +kernel
theorem dX5_readClause_46 : decode cX5_readClause 46 = .ok (.putfield 31, 3) := by decide +kernel
theorem dX5_readClause_49 : decode cX5_readClause 49 = .ok (.return_, 1) := by decide +kernel
theorem dX5_sign_0 : decode cX5_sign 0 = .ok (.aload_n 0, 1) := by decide +kernel
theorem dX5_sign_1 : decode cX5_sign 1 = .ok (.getfield 35, 3) := by decide +kernel
theorem dX5_sign_4 : decode cX5_sign 4 = .ok (.aload_n 0, 1) := by decide +kernel
theorem dX5_sign_5 : decode cX5_sign 5 = .ok (.getfield 15, 3) := by decide +kernel
theorem dX5_sign_8 : decode cX5_sign 8 = .ok (.getfield 42, 3) := by decide +kernel
theorem dX5_sign_11 : decode cX5_sign 11 = .ok (.if_icmp .ge 28, 3) := by decide +kernel
theorem dX5_sign_39 : decode cX5_sign 39 = .ok (.iconst 0, 1) := by decide +kernel
theorem dX5_sign_40 : decode cX5_sign 40 = .ok (.ireturn, 1) := by decide +kernel
set_option maxRecDepth 20000 in
theorem ggX5_skipBlanks_X5_sign : GoodIn wsX5_skipBlanks wsX5_sign := goodIn_r _ [7, 2, 8, 9, 10, 11, 12, 13, 14, 15, 16, 17, 18, 19] (by decide +kernel) (by decide +kernel)
set_option maxRecDepth 20000 in
theorem gX5_skipBlanks_X5_sign : GoodIn wsX5_skipBlanks (wsV RX5 52 RX5 yX5_sign wsX5_sign) := goodIn_app (goodIn_of _ (by decide +kernel)) ggX5_skipBlanks_X5_sign
theorem dX5_skipBlanks_0 : decode cX5_skipBlanks 0 = .ok (.iconst 0, 1) := by decide +kernel
theorem dX5_skipBlanks_1 : decode cX5_skipBlanks 1 = .ok (.istore_n 1, 1) := by decide +kernel
theorem dX5_skipBlanks_2 : decode cX5_skipBlanks 2 = .ok (.iload_n 1, 1) := by decide +kernel
theorem dX5_skipBlanks_3 : decode cX5_skipBlanks 3 = .ok (.sipush 600, 3) := by decide +kernel
theorem dX5_skipBlanks_6 : decode cX5_skipBlanks 6 = .ok (.if_icmp .ge 35, 3) := by decide +kernel
theorem dX5_skipBlanks_9 : decode cX5_skipBlanks 9 = .ok (.aload_n 0, 1) := by decide +kernel
theorem dX5_skipBlanks_10 : decode cX5_skipBlanks 10 = .ok (.getfield 31, 3) := by decide +kernel
theorem dX5_skipBlanks_13 : decode cX5_skipBlanks 13 = .ok (.ifCond .ne 28, 3) := by decide +kernel
theorem dX5_skipBlanks_16 : decode cX5_skipBlanks 16 = .ok (.aload_n 0, 1) := by decide +kernel
theorem dX5_skipBlanks_17 : decode cX5_skipBlanks 17 = .ok (.invokevirtual 52, 3) := by decide +kernel
theorem dX5_skipBlanks_20 : decode cX5_skipBlanks 20 = .ok (.bipush 32, 2) := by decide +kernel
theorem dX5_skipBlanks_22 : decode cX5_skipBlanks 22 = .ok (.if_icmp .ne 19, 3) := by decide +kernel
theorem dX5_skipBlanks_41 : decode cX5_skipBlanks 41 = .ok (.return_, 1) := by decide +kernel
set_option maxRecDepth 20000 in
theorem ggX10_fault_X5_firstFault : GoodIn wsX10_fault wsX5_firstFault := goodIn_r _ [6, 7, 8, 9, 10, 11, 5, 12, 13, 14, 15, 16, 17, 18, 19, 20, 21, 22, 23, 24, 25, 26, 27, 28, 29, 30, 31, 32, 33, 34, 35, 36, 37, 38, 39, 40, 41, 42, 43, 44, 45, 46, 47, 48, 49, 50, 51, 52, 53, 54, 55, 56, 57, 58, 59, 60, 61, 62, 63, 64, 65, 66, 67, 81, 82, 83, 84, 85, 86, 87, 88, 89] (by decide +kernel) (by decide +kernel)
set_option maxRecDepth 20000 in
theorem gX10_fault_X5_firstFault : GoodIn wsX10_fault (wsV RX10 104 RX5 yX5_firstFault wsX5_firstFault) := goodIn_app (goodIn_of _ (by decide +kernel)) ggX10_fault_X5_firstFault
theorem dX10_fault_0 : decode cX10_fault 0 = .ok (.aload_n 0, 1) := by decide +kernel
theorem dX10_fault_1 : decode cX10_fault 1 = .ok (.getfield 21, 3) := by decide +kernel
theorem dX10_fault_4 : decode cX10_fault 4 = .ok (.invokevirtual 104, 3) := by decide +kernel
theorem dX10_fault_7 : decode cX10_fault 7 = .ok (.ireturn, 1) := by decide +kernel
set_option maxRecDepth 20000 in
theorem ggX10_text_X5_firstFault : GoodIn wsX10_text wsX5_firstFault := goodIn_r _ [12, 13, 14, 15, 16, 17, 11, 18, 19, 20, 21, 22, 23, 24, 25, 26, 27, 28, 29, 30, 31, 32, 33, 34, 35, 36, 37, 38, 39, 40, 41, 42, 43, 44, 45, 46, 47, 48, 49, 50, 51, 52, 53, 54, 55, 56, 57, 58, 59, 60, 61, 62, 63, 64, 65, 66, 67, 68, 69, 70, 71, 72, 73, 303, 304, 305, 306, 307, 308, 309, 301, 302] (by decide +kernel) (by decide +kernel)
set_option maxRecDepth 20000 in
theorem gX10_text_X5_firstFault : GoodIn wsX10_text (wsV RX10 104 RX5 yX5_firstFault wsX5_firstFault) := goodIn_app (goodIn_of _ (by decide +kernel)) ggX10_text_X5_firstFault
theorem dX10_text_0 : decode cX10_text 0 = .ok (.aload_n 0, 1) := by decide +kernel
theorem dX10_text_1 : decode cX10_text 1 = .ok (.getfield 21, 3) := by decide +kernel
theorem dX10_text_4 : decode cX10_text 4 = .ok (.invokevirtual 104, 3) := by decide +kernel
theorem dX10_text_7 : decode cX10_text 7 = .ok (.iconst (-1), 1) := by decide +kernel
theorem dX10_text_8 : decode cX10_text 8 = .ok (.if_icmp .eq 5, 3) := by decide +kernel
theorem dX10_text_11 : decode cX10_text 11 = .ok (.iconst (-1), 1) := by decide +kernel
theorem dX10_text_12 : decode cX10_text 12 = .ok (.ireturn, 1) := by decide +kernel
set_option maxHeartbeats 4000000 in
set_option maxRecDepth 100000 in
theorem c_X5_begin (l : Launch) (dC : Nat → ClassId) (dI : Nat → Nat → Nat) (cB cI cJ : ClassId) (sz : Nat) (xReader xTape rN : Nat) : Met l yX5_begin wsX5_begin ({ frames := 1, cells := 0, slots := 0, locals := 24 }) (va_Pc [.ref xReader] (fun U => U.heap.size = sz ∧ va_P (dC, dI) vwCl [(xReader, .inr (5, [.ref xTape, .ref rN, .int 0, .int 0, .int 0, .int 0, .int 0]))] U.heap ∧ va_K (dC, dI) vwCl [(cB, .byte), (cI, .int), (cJ, .long)] U ∧ va_D (fun _ => True) [(xReader, .inr (5, [.ref xTape, .ref rN, .int 0, .int 0, .int 0, .int 0, .int 0]))])) (va_Qv (fun _ : Unit => True) (fun _ t => va_P (dC, dI) vwCl [(xReader, .inr (5, [.ref xTape, .ref rN, .int 0, .int 0, .int 0, .int 0, .int 0]))] t.heap ∧ va_K (dC, dI) vwCl [(cB, .byte), (cI, .int), (cJ, .long)] t ∧ va_D (va_A [(xReader, .inr (5, [.ref xTape, .ref rN, .int 0, .int 0, .int 0, .int 0, .int 0]))] sz) [(xReader, .inr (5, [.ref xTape, .ref rN, .int 0, .int 0, .int 0, .int 0, .int 0]))]) (va_A [(xReader, .inr (5, [.ref xTape, .ref rN, .int 0, .int 0, .int 0, .int 0, .int 0]))] sz)) 0 0 (va_A [(xReader, .inr (5, [.ref xTape, .ref rN, .int 0, .int 0, .int 0, .int 0, .int 0]))] sz) := by
  refine Met.ofW (cc := cX5_begin) (maxL := 1) (ret := none) (by decide) rfl ?_
  intro p e s m args below meth c s₁ B hml hv
  obtain ⟨rfl, hsz, hP, hK, hD0⟩ := hv
  have hx := B.exec
  have hb := B.bytes
  have hr := B.returns
  have hts := atoms_spec (ws := wsX5_begin) B.pre
  have hown : s.vm.findClass RX5 = some m.cls := findClass_of_methodNamed B.named
  have hlocks := B.notSynchronized
  have hiX5 : ∀ w ∈ u_ws RX5 TX5 7, w ∈ wsX5_begin := by decide +kernel
  subst hsz
  have hD := hD0.self (sz := s.heap.size)
  generalize hAe : va_A [(xReader, .inr (5, [.ref xTape, .ref rN, .int 0, .int 0, .int 0, .int 0, .int 0]))] s.heap.size = A at hD ⊢
  have hA : ∀ q : Nat, s.heap.size ≤ q → A q := fun q h => by rw [← hAe]; exact Or.inr h
  have hS : va_S A s.heap s.heap [] := va_S.rf
  have hP : va_P (dC, dI) vwCl [(xReader, .inr (5, [.ref xTape, .ref rN, .int 0, .int 0, .int 0, .int 0, .int 0]))] s.heap := hP
  have hl := lv_entry ([.ref xReader]) (n := 1) (Nat.le_of_ble_eq_true rfl)
  rw [lg_entry_eq]
  generalize (lg_sl ([.ref xReader]) ++ List.replicate (1 - (lg_sl ([.ref xReader])).length) Slot.unset).toArray = ls at hl ⊢
  have hl : lv_has ls 1 [(0, .ref xReader)] := hl
  refine lv_aload_n hx hb dX5_begin_0 rfl (lv_at hl 0 rfl) ?_
  refine lv_iconst (v := 0) hx hb dX5_begin_1 (by decide) ?_
  refine va_put (D := (dC, dI)) (ci := 5) (v := .int 0) (ty := .int) (C := RX5) (T := TX5) (N := 7) hx hb hts hiX5 tyX5 tyX5_ok nmX5 hown hK hP hD hS 0 rfl rfl 5 (by decide) (hts (.fieldLink RX5 35 "ScissorsTable$Reader" "at" "I") (by decide +kernel)) (fun _ h9 => h9) rfl (by decide +kernel) rfl rfl (Nat.le_of_ble_eq_true rfl) dX5_begin_2 (fun H locs hP hD hS => ?_)
  have hP : va_P (dC, dI) vwCl [(xReader, .inr (5, [.ref xTape, .ref rN, .int 0, .int 0, .int 0, .int 0, .int 0]))] H := hP
  have hD : va_D A [(xReader, .inr (5, [.ref xTape, .ref rN, .int 0, .int 0, .int 0, .int 0, .int 0]))] := hD
  refine lv_aload_n hx hb dX5_begin_5 rfl (lv_at hl 0 rfl) ?_
  refine lv_iconst (v := 0) hx hb dX5_begin_6 (by decide) ?_
  refine va_put (D := (dC, dI)) (ci := 5) (v := .int 0) (ty := .boolean) (C := RX5) (T := TX5) (N := 7) hx hb hts hiX5 tyX5 tyX5_ok nmX5 hown hK hP hD hS 0 rfl rfl 6 (by decide) (hts (.fieldLink RX5 31 "ScissorsTable$Reader" "faulty" "Z") (by decide +kernel)) (fun _ h9 => h9) rfl (by decide +kernel) rfl rfl (Nat.le_of_ble_eq_true rfl) dX5_begin_7 (fun H locs hP hD hS => ?_)
  have hP : va_P (dC, dI) vwCl [(xReader, .inr (5, [.ref xTape, .ref rN, .int 0, .int 0, .int 0, .int 0, .int 0]))] H := hP
  have hD : va_D A [(xReader, .inr (5, [.ref xTape, .ref rN, .int 0, .int 0, .int 0, .int 0, .int 0]))] := hD
  have hP9 := hP.sub (ws' := [(xReader, .inr (5, [.ref xTape, .ref rN, .int 0, .int 0, .int 0, .int 0, .int 0]))]) [0] rfl
  have hD9 := hD.sub (ws' := [(xReader, .inr (5, [.ref xTape, .ref rN, .int 0, .int 0, .int 0, .int 0, .int 0]))]) [0] (by decide) rfl
  refine W.widen (k := 0) (n := 0) (Nat.le_of_ble_eq_true rfl) (Nat.le_of_ble_eq_true rfl) ?_
  exact W.vret hx hb hr (fun t ht hW => ⟨⟨(), rfl, trivial, by rw [ht]; exact hP9, va_K.moved hW.alike hK, hD9⟩, hS.F ht⟩) hS.2.2 dX5_begin_10
set_option maxHeartbeats 4000000 in
set_option maxRecDepth 100000 in
theorem c_X5_sign (l : Launch) (dC : Nat → ClassId) (dI : Nat → Nat → Nat) (cB cI cJ : ClassId) (sz : Nat) (xTape tB xReader rN : Nat) : Met l yX5_sign wsX5_sign ({ frames := 1, cells := 0, slots := 0, locals := 24 }) (va_Pc [.ref xReader] (fun U => U.heap.size = sz ∧ va_P (dC, dI) vwCl [(xTape, .inr (9, [.ref tB, .int 0])), (xReader, .inr (5, [.ref xTape, .ref rN, .int 0, .int 0, .int 0, .int 0, .int 0]))] U.heap ∧ va_K (dC, dI) vwCl [(cB, .byte), (cI, .int), (cJ, .long)] U ∧ va_D (fun _ => True) [(xTape, .inr (9, [.ref tB, .int 0])), (xReader, .inr (5, [.ref xTape, .ref rN, .int 0, .int 0, .int 0, .int 0, .int 0]))])) (va_Qi (fun (r : Int32) (_ : Unit) => r = 0) (fun _ t => va_P (dC, dI) vwCl [(xReader, .inr (5, [.ref xTape, .ref rN, .int 0, .int 0, .int 0, .int 0, .int 0])), (xTape, .inr (9, [.ref tB, .int 0]))] t.heap ∧ va_K (dC, dI) vwCl [(cB, .byte), (cI, .int), (cJ, .long)] t ∧ va_D (va_A [(xTape, .inr (9, [.ref tB, .int 0])), (xReader, .inr (5, [.ref xTape, .ref rN, .int 0, .int 0, .int 0, .int 0, .int 0]))] sz) [(xReader, .inr (5, [.ref xTape, .ref rN, .int 0, .int 0, .int 0, .int 0, .int 0])), (xTape, .inr (9, [.ref tB, .int 0]))]) (va_A [(xTape, .inr (9, [.ref tB, .int 0])), (xReader, .inr (5, [.ref xTape, .ref rN, .int 0, .int 0, .int 0, .int 0, .int 0]))] sz)) 0 0 (va_A [(xTape, .inr (9, [.ref tB, .int 0])), (xReader, .inr (5, [.ref xTape, .ref rN, .int 0, .int 0, .int 0, .int 0, .int 0]))] sz) := by
  refine Met.ofW (cc := cX5_sign) (maxL := 1) (ret := (some .int)) (by decide) rfl ?_
  intro p e s m args below meth c s₁ B hml hv
  obtain ⟨rfl, hsz, hP, hK, hD0⟩ := hv
  have hx := B.exec
  have hb := B.bytes
  have hr := B.returns
  have hts := atoms_spec (ws := wsX5_sign) B.pre
  have hown : s.vm.findClass RX5 = some m.cls := findClass_of_methodNamed B.named
  have hlocks := B.notSynchronized
  have hiX5 : ∀ w ∈ u_ws RX5 TX5 7, w ∈ wsX5_sign := by decide +kernel
  have hiX9 : ∀ w ∈ u_ws RX9 TX9 2, w ∈ wsX5_sign := by decide +kernel
  subst hsz
  have hD := hD0.self (sz := s.heap.size)
  generalize hAe : va_A [(xTape, .inr (9, [.ref tB, .int 0])), (xReader, .inr (5, [.ref xTape, .ref rN, .int 0, .int 0, .int 0, .int 0, .int 0]))] s.heap.size = A at hD ⊢
  have hA : ∀ q : Nat, s.heap.size ≤ q → A q := fun q h => by rw [← hAe]; exact Or.inr h
  have hS : va_S A s.heap s.heap [] := va_S.rf
  have hP : va_P (dC, dI) vwCl [(xTape, .inr (9, [.ref tB, .int 0])), (xReader, .inr (5, [.ref xTape, .ref rN, .int 0, .int 0, .int 0, .int 0, .int 0]))] s.heap := hP
  have hl := lv_entry ([.ref xReader]) (n := 1) (Nat.le_of_ble_eq_true rfl)
  rw [lg_entry_eq]
  generalize (lg_sl ([.ref xReader]) ++ List.replicate (1 - (lg_sl ([.ref xReader])).length) Slot.unset).toArray = ls at hl ⊢
  have hl : lv_has ls 1 [(0, .ref xReader)] := hl
  refine lv_aload_n hx hb dX5_sign_0 rfl (lv_at hl 0 rfl) ?_
  refine va_get (D := (dC, dI)) (ci := 5) (v := .int 0) (C := RX5) (T := TX5) (N := 7) hx hb hts hiX5 hown hK hP 1 rfl rfl 5 (by decide) (hts (.fieldLink RX5 35 "ScissorsTable$Reader" "at" "I") (by decide +kernel)) (fun _ h9 => h9) rfl dX5_sign_1 ?_
  refine lv_aload_n hx hb dX5_sign_4 rfl (lv_at hl 0 rfl) ?_
  refine va_get (D := (dC, dI)) (ci := 5) (v := .ref xTape) (C := RX5) (T := TX5) (N := 7) hx hb hts hiX5 hown hK hP 1 rfl rfl 0 (by decide) (hts (.fieldLink RX5 15 "ScissorsTable$Reader" "tape" "LScissorsTable$Tape;") (by decide +kernel)) (fun _ h9 => h9) rfl dX5_sign_5 ?_
  refine va_get (D := (dC, dI)) (ci := 9) (v := .int 0) (C := RX9) (T := TX9) (N := 2) hx hb hts hiX9 hown hK hP 0 rfl rfl 1 (by decide) (hts (.fieldLink RX5 42 "ScissorsTable$Tape" "length" "I") (by decide +kernel)) (fun _ h9 => h9) rfl dX5_sign_8 ?_
  refine lv_icmp_ge (tgt := 39) hx hb dX5_sign_11 (by decide) (fun _ => ?_) (fun c => absurd (by decide) c)
  refine lv_iconst (v := 0) hx hb dX5_sign_39 (by decide) ?_
  have hP9 := hP.sub (ws' := [(xReader, .inr (5, [.ref xTape, .ref rN, .int 0, .int 0, .int 0, .int 0, .int 0])), (xTape, .inr (9, [.ref tB, .int 0]))]) [1, 0] rfl
  have hD9 := hD.sub (ws' := [(xReader, .inr (5, [.ref xTape, .ref rN, .int 0, .int 0, .int 0, .int 0, .int 0])), (xTape, .inr (9, [.ref tB, .int 0]))]) [1, 0] (by decide) rfl
  refine W.widen (k := 0) (n := 0) (Nat.le_of_ble_eq_true rfl) (Nat.le_of_ble_eq_true rfl) ?_
  exact W.iret (v := 0) hx hb hr (fun t ht hW => ⟨⟨0, (), rfl, rfl, by rw [ht]; exact hP9, va_K.moved hW.alike hK, hD9⟩, hS.F ht⟩) hS.2.2 dX5_sign_40
set_option maxHeartbeats 4000000 in
set_option maxRecDepth 100000 in
theorem c_X5_skipBlanks (l : Launch) (dC : Nat → ClassId) (dI : Nat → Nat → Nat) (cB cI cJ : ClassId) (sz : Nat) (xTape tB xReader rN : Nat) : Met l yX5_skipBlanks wsX5_skipBlanks ({ frames := 2, cells := 0, slots := 0, locals := 44 }) (va_Pc [.ref xReader] (fun U => U.heap.size = sz ∧ va_P (dC, dI) vwCl [(xTape, .inr (9, [.ref tB, .int 0])), (xReader, .inr (5, [.ref xTape, .ref rN, .int 0, .int 0, .int 0, .int 0, .int 0]))] U.heap ∧ va_K (dC, dI) vwCl [(cB, .byte), (cI, .int), (cJ, .long)] U ∧ va_D (fun _ => True) [(xTape, .inr (9, [.ref tB, .int 0])), (xReader, .inr (5, [.ref xTape, .ref rN, .int 0, .int 0, .int 0, .int 0, .int 0]))])) (va_Qv (fun _ : Unit => True) (fun _ t => va_P (dC, dI) vwCl [(xReader, .inr (5, [.ref xTape, .ref rN, .int 0, .int 0, .int 0, .int 0, .int 0])), (xTape, .inr (9, [.ref tB, .int 0]))] t.heap ∧ va_K (dC, dI) vwCl [(cB, .byte), (cI, .int), (cJ, .long)] t ∧ va_D (va_A [(xTape, .inr (9, [.ref tB, .int 0])), (xReader, .inr (5, [.ref xTape, .ref rN, .int 0, .int 0, .int 0, .int 0, .int 0]))] sz) [(xReader, .inr (5, [.ref xTape, .ref rN, .int 0, .int 0, .int 0, .int 0, .int 0])), (xTape, .inr (9, [.ref tB, .int 0]))]) (va_A [(xTape, .inr (9, [.ref tB, .int 0])), (xReader, .inr (5, [.ref xTape, .ref rN, .int 0, .int 0, .int 0, .int 0, .int 0]))] sz)) 0 0 (va_A [(xTape, .inr (9, [.ref tB, .int 0])), (xReader, .inr (5, [.ref xTape, .ref rN, .int 0, .int 0, .int 0, .int 0, .int 0]))] sz) := by
  refine Met.ofW (cc := cX5_skipBlanks) (maxL := 2) (ret := none) (by decide) rfl ?_
  intro p e s m args below meth c s₁ B hml hv
  obtain ⟨rfl, hsz, hP, hK, hD0⟩ := hv
  have hx := B.exec
  have hb := B.bytes
  have hr := B.returns
  have hts := atoms_spec (ws := wsX5_skipBlanks) B.pre
  have hown : s.vm.findClass RX5 = some m.cls := findClass_of_methodNamed B.named
  have hlocks := B.notSynchronized
  have hiX5 : ∀ w ∈ u_ws RX5 TX5 7, w ∈ wsX5_skipBlanks := by decide +kernel
  subst hsz
  have hD := hD0.self (sz := s.heap.size)
  generalize hAe : va_A [(xTape, .inr (9, [.ref tB, .int 0])), (xReader, .inr (5, [.ref xTape, .ref rN, .int 0, .int 0, .int 0, .int 0, .int 0]))] s.heap.size = A at hD ⊢
  have hA : ∀ q : Nat, s.heap.size ≤ q → A q := fun q h => by rw [← hAe]; exact Or.inr h
  have hS : va_S A s.heap s.heap [] := va_S.rf
  have hP : va_P (dC, dI) vwCl [(xTape, .inr (9, [.ref tB, .int 0])), (xReader, .inr (5, [.ref xTape, .ref rN, .int 0, .int 0, .int 0, .int 0, .int 0]))] s.heap := hP
  have hl := lv_entry ([.ref xReader]) (n := 2) (Nat.le_of_ble_eq_true rfl)
  rw [lg_entry_eq]
  generalize (lg_sl ([.ref xReader]) ++ List.replicate (2 - (lg_sl ([.ref xReader])).length) Slot.unset).toArray = ls at hl ⊢
  have hl : lv_has ls 2 [(0, .ref xReader)] := hl
  refine lv_iconst (v := 0) hx hb dX5_skipBlanks_0 (by decide) ?_
  refine lv_istore_n (lv' := [(1, .int 0), (0, .ref xReader)]) hx hb dX5_skipBlanks_1 rfl hl (by decide) rfl (fun ls hl => ?_)
  refine lv_iload_n hx hb dX5_skipBlanks_2 rfl (lv_at hl 0 rfl) ?_
  refine lv_sipush (v := 600) hx hb dX5_skipBlanks_3 (by decide) ?_
  refine lv_icmp_ge (tgt := 41) hx hb dX5_skipBlanks_6 (by decide) (fun c => absurd c (by decide)) (fun _ => ?_)
  refine lv_aload_n hx hb dX5_skipBlanks_9 rfl (lv_at hl 1 rfl) ?_
  refine va_get (D := (dC, dI)) (ci := 5) (v := .int 0) (C := RX5) (T := TX5) (N := 7) hx hb hts hiX5 hown hK hP 1 rfl rfl 6 (by decide) (hts (.fieldLink RX5 31 "ScissorsTable$Reader" "faulty" "Z") (by decide +kernel)) (fun _ h9 => h9) rfl dX5_skipBlanks_10 ?_
  refine lv_if_ne (tgt := 41) hx hb dX5_skipBlanks_13 (by decide) (fun c => absurd (by decide) c) (fun _ => ?_)
  refine lv_aload_n hx hb dX5_skipBlanks_16 rfl (lv_at hl 1 rfl) ?_
  have hPc := hP.sub (ws' := [(xTape, .inr (9, [.ref tB, .int 0])), (xReader, .inr (5, [.ref xTape, .ref rN, .int 0, .int 0, .int 0, .int 0, .int 0]))]) [0, 1] rfl
  have hDc := hD.sub (ws' := [(xTape, .inr (9, [.ref tB, .int 0])), (xReader, .inr (5, [.ref xTape, .ref rN, .int 0, .int 0, .int 0, .int 0, .int 0]))]) [0, 1] (by decide) rfl
  have hFc := va_free (wc := [(xTape, .inr (9, [.ref tB, .int 0])), (xReader, .inr (5, [.ref xTape, .ref rN, .int 0, .int 0, .int 0, .int 0, .int 0]))]) hD hS hA [0, 1] rfl
  refine va_calli (va_runV (As := []) (rest := []) ⟨hx, hb, hml, hown, hts⟩ (c_X5_sign l dC dI cB cI cJ s.heap.size xTape tB xReader rN) (cwV 0 hts gX5_skipBlanks_X5_sign rfl rfl rfl (by decide +kernel) ⟨Nat.le_of_ble_eq_true rfl, Nat.le_of_ble_eq_true rfl⟩) ⟨fun a U g mk q => by obtain ⟨q0, q1, qP, qK, qD⟩ := q; exact ⟨q0, q1, qP, va_K.moved (u := U) (U := U.calling g mk a) (Vm.Alike.refl U.vm) qK, qD⟩, va_recv hK hP (ci := 5) (q0 := 1) rfl rfl, fun U hU hW => ⟨rfl, by rw [hU], by rw [hU]; exact hPc, va_K.moved hW.alike hK, hDc.weaken (fun _ _ _ _ => trivial)⟩⟩ rfl rfl hl.1 rfl (lv_room (Nat.le_of_ble_eq_true rfl)) dX5_skipBlanks_17 ⟨Nat.le_of_ble_eq_true rfl, Nat.le_of_ble_eq_true rfl⟩) hS (fun q _ h => hFc q h) hFc (fun r_1 u t H1 locs ht hvm hw hB hz1 hk1 hS => ?_)
  obtain ⟨hP1, hK1, hD1⟩ := hB
  rw [ht] at hP1
  obtain ⟨hP, hD⟩ := va_join (wr := []) (w1 := [(xReader, .inr (5, [.ref xTape, .ref rN, .int 0, .int 0, .int 0, .int 0, .int 0])), (xTape, .inr (9, [.ref tB, .int 0]))]) hP hD [0, 1] [] rfl rfl (by decide) (by decide) hk1 hFc hP1 hD1
  generalize H1 = H at hP hS ⊢
  have hP : va_P (dC, dI) vwCl [(xReader, .inr (5, [.ref xTape, .ref rN, .int 0, .int 0, .int 0, .int 0, .int 0])), (xTape, .inr (9, [.ref tB, .int 0]))] H := hP
  have hD : va_D A [(xReader, .inr (5, [.ref xTape, .ref rN, .int 0, .int 0, .int 0, .int 0, .int 0])), (xTape, .inr (9, [.ref tB, .int 0]))] := hD
  have hr_1 := hw
  obtain rfl : r_1 = 0 := hr_1
  refine lv_bipush (v := 32) hx hb dX5_skipBlanks_20 (by decide) ?_
  refine lv_icmp_ne (tgt := 41) hx hb dX5_skipBlanks_22 (by decide) (fun _ => ?_) (fun c => absurd c (by decide))
  have hP9 := hP.sub (ws' := [(xReader, .inr (5, [.ref xTape, .ref rN, .int 0, .int 0, .int 0, .int 0, .int 0])), (xTape, .inr (9, [.ref tB, .int 0]))]) [0, 1] rfl
  have hD9 := hD.sub (ws' := [(xReader, .inr (5, [.ref xTape, .ref rN, .int 0, .int 0, .int 0, .int 0, .int 0])), (xTape, .inr (9, [.ref tB, .int 0]))]) [0, 1] (by decide) rfl
  refine W.widen (k := 0) (n := 0) (Nat.le_of_ble_eq_true rfl) (Nat.le_of_ble_eq_true rfl) ?_
  exact W.vret hx hb hr (fun t ht hW => ⟨⟨(), rfl, trivial, by rw [ht]; exact hP9, va_K.moved hW.alike hK, hD9⟩, hS.F ht⟩) hS.2.2 dX5_skipBlanks_41
set_option maxHeartbeats 4000000 in
set_option maxRecDepth 100000 in
theorem c_X5_skipBlanks_f (l : Launch) (dC : Nat → ClassId) (dI : Nat → Nat → Nat) (cB cI cJ : ClassId) (sz : Nat) (xReader xTape rN : Nat) : Met l yX5_skipBlanks wsX5_skipBlanks ({ frames := 1, cells := 0, slots := 0, locals := 24 }) (va_Pc [.ref xReader] (fun U => U.heap.size = sz ∧ va_P (dC, dI) vwCl [(xReader, .inr (5, [.ref xTape, .ref rN, .int 0, .int 0, .int 0, .int 0, .int 1]))] U.heap ∧ va_K (dC, dI) vwCl [(cB, .byte), (cI, .int), (cJ, .long)] U ∧ va_D (fun _ => True) [(xReader, .inr (5, [.ref xTape, .ref rN, .int 0, .int 0, .int 0, .int 0, .int 1]))])) (va_Qv (fun _ : Unit => True) (fun _ t => va_P (dC, dI) vwCl [(xReader, .inr (5, [.ref xTape, .ref rN, .int 0, .int 0, .int 0, .int 0, .int 1]))] t.heap ∧ va_K (dC, dI) vwCl [(cB, .byte), (cI, .int), (cJ, .long)] t ∧ va_D (va_A [(xReader, .inr (5, [.ref xTape, .ref rN, .int 0, .int 0, .int 0, .int 0, .int 1]))] sz) [(xReader, .inr (5, [.ref xTape, .ref rN, .int 0, .int 0, .int 0, .int 0, .int 1]))]) (va_A [(xReader, .inr (5, [.ref xTape, .ref rN, .int 0, .int 0, .int 0, .int 0, .int 1]))] sz)) 0 0 (va_A [(xReader, .inr (5, [.ref xTape, .ref rN, .int 0, .int 0, .int 0, .int 0, .int 1]))] sz) := by
  refine Met.ofW (cc := cX5_skipBlanks) (maxL := 2) (ret := none) (by decide) rfl ?_
  intro p e s m args below meth c s₁ B hml hv
  obtain ⟨rfl, hsz, hP, hK, hD0⟩ := hv
  have hx := B.exec
  have hb := B.bytes
  have hr := B.returns
  have hts := atoms_spec (ws := wsX5_skipBlanks) B.pre
  have hown : s.vm.findClass RX5 = some m.cls := findClass_of_methodNamed B.named
  have hlocks := B.notSynchronized
  have hiX5 : ∀ w ∈ u_ws RX5 TX5 7, w ∈ wsX5_skipBlanks := by decide +kernel
  subst hsz
  have hD := hD0.self (sz := s.heap.size)
  generalize hAe : va_A [(xReader, .inr (5, [.ref xTape, .ref rN, .int 0, .int 0, .int 0, .int 0, .int 1]))] s.heap.size = A at hD ⊢
  have hA : ∀ q : Nat, s.heap.size ≤ q → A q := fun q h => by rw [← hAe]; exact Or.inr h
  have hS : va_S A s.heap s.heap [] := va_S.rf
  have hP : va_P (dC, dI) vwCl [(xReader, .inr (5, [.ref xTape, .ref rN, .int 0, .int 0, .int 0, .int 0, .int 1]))] s.heap := hP
  have hl := lv_entry ([.ref xReader]) (n := 2) (Nat.le_of_ble_eq_true rfl)
  rw [lg_entry_eq]
  generalize (lg_sl ([.ref xReader]) ++ List.replicate (2 - (lg_sl ([.ref xReader])).length) Slot.unset).toArray = ls at hl ⊢
  have hl : lv_has ls 2 [(0, .ref xReader)] := hl
  refine lv_iconst (v := 0) hx hb dX5_skipBlanks_0 (by decide) ?_
  refine lv_istore_n (lv' := [(1, .int 0), (0, .ref xReader)]) hx hb dX5_skipBlanks_1 rfl hl (by decide) rfl (fun ls hl => ?_)
  refine lv_iload_n hx hb dX5_skipBlanks_2 rfl (lv_at hl 0 rfl) ?_
  refine lv_sipush (v := 600) hx hb dX5_skipBlanks_3 (by decide) ?_
  refine lv_icmp_ge (tgt := 41) hx hb dX5_skipBlanks_6 (by decide) (fun c => absurd c (by decide)) (fun _ => ?_)
  refine lv_aload_n hx hb dX5_skipBlanks_9 rfl (lv_at hl 1 rfl) ?_
  refine va_get (D := (dC, dI)) (ci := 5) (v := .int 1) (C := RX5) (T := TX5) (N := 7) hx hb hts hiX5 hown hK hP 0 rfl rfl 6 (by decide) (hts (.fieldLink RX5 31 "ScissorsTable$Reader" "faulty" "Z") (by decide +kernel)) (fun _ h9 => h9) rfl dX5_skipBlanks_10 ?_
  refine lv_if_ne (tgt := 41) hx hb dX5_skipBlanks_13 (by decide) (fun _ => ?_) (fun c => absurd c (by decide))
  have hP9 := hP.sub (ws' := [(xReader, .inr (5, [.ref xTape, .ref rN, .int 0, .int 0, .int 0, .int 0, .int 1]))]) [0] rfl
  have hD9 := hD.sub (ws' := [(xReader, .inr (5, [.ref xTape, .ref rN, .int 0, .int 0, .int 0, .int 0, .int 1]))]) [0] (by decide) rfl
  refine W.widen (k := 0) (n := 0) (Nat.le_of_ble_eq_true rfl) (Nat.le_of_ble_eq_true rfl) ?_
  exact W.vret hx hb hr (fun t ht hW => ⟨⟨(), rfl, trivial, by rw [ht]; exact hP9, va_K.moved hW.alike hK, hD9⟩, hS.F ht⟩) hS.2.2 dX5_skipBlanks_41
set_option maxHeartbeats 4000000 in
set_option maxRecDepth 100000 in
theorem c_X5_readClause (l : Launch) (dC : Nat → ClassId) (dI : Nat → Nat → Nat) (cB cI cJ : ClassId) (sz : Nat) (xTape tB xReader rN : Nat) : Met l yX5_readClause wsX5_readClause ({ frames := 3, cells := 0, slots := 0, locals := 65 }) (va_Pc [.ref xReader] (fun U => U.heap.size = sz ∧ va_P (dC, dI) vwCl [(xTape, .inr (9, [.ref tB, .int 0])), (xReader, .inr (5, [.ref xTape, .ref rN, .int 0, .int 0, .int 0, .int 0, .int 0]))] U.heap ∧ va_K (dC, dI) vwCl [(cB, .byte), (cI, .int), (cJ, .long)] U ∧ va_D (fun _ => True) [(xTape, .inr (9, [.ref tB, .int 0])), (xReader, .inr (5, [.ref xTape, .ref rN, .int 0, .int 0, .int 0, .int 0, .int 0]))])) (va_Qv (fun _ : Unit => True) (fun _ t => va_P (dC, dI) vwCl [(xReader, .inr (5, [.ref xTape, .ref rN, .int 0, .int 0, .int 0, .int 0, .int 1])), (xTape, .inr (9, [.ref tB, .int 0]))] t.heap ∧ va_K (dC, dI) vwCl [(cB, .byte), (cI, .int), (cJ, .long)] t ∧ va_D (va_A [(xTape, .inr (9, [.ref tB, .int 0])), (xReader, .inr (5, [.ref xTape, .ref rN, .int 0, .int 0, .int 0, .int 0, .int 0]))] sz) [(xReader, .inr (5, [.ref xTape, .ref rN, .int 0, .int 0, .int 0, .int 0, .int 1])), (xTape, .inr (9, [.ref tB, .int 0]))]) (va_A [(xTape, .inr (9, [.ref tB, .int 0])), (xReader, .inr (5, [.ref xTape, .ref rN, .int 0, .int 0, .int 0, .int 0, .int 0]))] sz)) 0 0 (va_A [(xTape, .inr (9, [.ref tB, .int 0])), (xReader, .inr (5, [.ref xTape, .ref rN, .int 0, .int 0, .int 0, .int 0, .int 0]))] sz) := by
  refine Met.ofW (cc := cX5_readClause) (maxL := 1) (ret := none) (by decide) rfl ?_
  intro p e s m args below meth c s₁ B hml hv
  obtain ⟨rfl, hsz, hP, hK, hD0⟩ := hv
  have hx := B.exec
  have hb := B.bytes
  have hr := B.returns
  have hts := atoms_spec (ws := wsX5_readClause) B.pre
  have hown : s.vm.findClass RX5 = some m.cls := findClass_of_methodNamed B.named
  have hlocks := B.notSynchronized
  have hiX5 : ∀ w ∈ u_ws RX5 TX5 7, w ∈ wsX5_readClause := by decide +kernel
  subst hsz
  have hD := hD0.self (sz := s.heap.size)
  generalize hAe : va_A [(xTape, .inr (9, [.ref tB, .int 0])), (xReader, .inr (5, [.ref xTape, .ref rN, .int 0, .int 0, .int 0, .int 0, .int 0]))] s.heap.size = A at hD ⊢
  have hA : ∀ q : Nat, s.heap.size ≤ q → A q := fun q h => by rw [← hAe]; exact Or.inr h
  have hS : va_S A s.heap s.heap [] := va_S.rf
  have hP : va_P (dC, dI) vwCl [(xTape, .inr (9, [.ref tB, .int 0])), (xReader, .inr (5, [.ref xTape, .ref rN, .int 0, .int 0, .int 0, .int 0, .int 0]))] s.heap := hP
  have hl := lv_entry ([.ref xReader]) (n := 1) (Nat.le_of_ble_eq_true rfl)
  rw [lg_entry_eq]
  generalize (lg_sl ([.ref xReader]) ++ List.replicate (1 - (lg_sl ([.ref xReader])).length) Slot.unset).toArray = ls at hl ⊢
  have hl : lv_has ls 1 [(0, .ref xReader)] := hl
  refine lv_aload_n hx hb dX5_readClause_0 rfl (lv_at hl 0 rfl) ?_
  refine lv_iconst (v := 0) hx hb dX5_readClause_1 (by decide) ?_
  refine va_put (D := (dC, dI)) (ci := 5) (v := .int 0) (ty := .int) (C := RX5) (T := TX5) (N := 7) hx hb hts hiX5 tyX5 tyX5_ok nmX5 hown hK hP hD hS 1 rfl rfl 2 (by decide) (hts (.fieldLink RX5 49 "ScissorsTable$Reader" "size" "I") (by decide +kernel)) (fun _ h9 => h9) rfl (by decide +kernel) rfl rfl (Nat.le_of_ble_eq_true rfl) dX5_readClause_2 (fun H locs hP hD hS => ?_)
  have hP : va_P (dC, dI) vwCl [(xTape, .inr (9, [.ref tB, .int 0])), (xReader, .inr (5, [.ref xTape, .ref rN, .int 0, .int 0, .int 0, .int 0, .int 0]))] H := hP
  have hD : va_D A [(xTape, .inr (9, [.ref tB, .int 0])), (xReader, .inr (5, [.ref xTape, .ref rN, .int 0, .int 0, .int 0, .int 0, .int 0]))] := hD
  refine lv_aload_n hx hb dX5_readClause_5 rfl (lv_at hl 0 rfl) ?_
  have hPc := hP.sub (ws' := [(xTape, .inr (9, [.ref tB, .int 0])), (xReader, .inr (5, [.ref xTape, .ref rN, .int 0, .int 0, .int 0, .int 0, .int 0]))]) [0, 1] rfl
  have hDc := hD.sub (ws' := [(xTape, .inr (9, [.ref tB, .int 0])), (xReader, .inr (5, [.ref xTape, .ref rN, .int 0, .int 0, .int 0, .int 0, .int 0]))]) [0, 1] (by decide) rfl
  have hFc := va_free (wc := [(xTape, .inr (9, [.ref tB, .int 0])), (xReader, .inr (5, [.ref xTape, .ref rN, .int 0, .int 0, .int 0, .int 0, .int 0]))]) hD hS hA [0, 1] rfl
  refine va_callv (va_runV (As := []) (rest := []) ⟨hx, hb, hml, hown, hts⟩ (c_X5_skipBlanks l dC dI cB cI cJ H.size xTape tB xReader rN) (cwV 0 hts gX5_readClause_X5_skipBlanks rfl rfl rfl (by decide +kernel) ⟨Nat.le_of_ble_eq_true rfl, Nat.le_of_ble_eq_true rfl⟩) ⟨fun a U g mk q => by obtain ⟨q0, q1, qP, qK, qD⟩ := q; exact ⟨q0, q1, qP, va_K.moved (u := U) (U := U.calling g mk a) (Vm.Alike.refl U.vm) qK, qD⟩, va_recv hK hP (ci := 5) (q0 := 1) rfl rfl, fun U hU hW => ⟨rfl, by rw [hU], by rw [hU]; exact hPc, va_K.moved hW.alike hK, hDc.weaken (fun _ _ _ _ => trivial)⟩⟩ rfl rfl hl.1 rfl (lv_room (Nat.le_of_ble_eq_true rfl)) dX5_readClause_6 ⟨Nat.le_of_ble_eq_true rfl, Nat.le_of_ble_eq_true rfl⟩) hS (fun q _ h => hFc q h) hFc (fun u t H1 locs ht hvm hw hB hz1 hk1 hS => ?_)
  obtain ⟨hP1, hK1, hD1⟩ := hB
  rw [ht] at hP1
  obtain ⟨hP, hD⟩ := va_join (wr := []) (w1 := [(xReader, .inr (5, [.ref xTape, .ref rN, .int 0, .int 0, .int 0, .int 0, .int 0])), (xTape, .inr (9, [.ref tB, .int 0]))]) hP hD [0, 1] [] rfl rfl (by decide) (by decide) hk1 hFc hP1 hD1
  generalize H1 = H at hP hS ⊢
  have hP : va_P (dC, dI) vwCl [(xReader, .inr (5, [.ref xTape, .ref rN, .int 0, .int 0, .int 0, .int 0, .int 0])), (xTape, .inr (9, [.ref tB, .int 0]))] H := hP
  have hD : va_D A [(xReader, .inr (5, [.ref xTape, .ref rN, .int 0, .int 0, .int 0, .int 0, .int 0])), (xTape, .inr (9, [.ref tB, .int 0]))] := hD
  refine lv_aload_n hx hb dX5_readClause_9 rfl (lv_at hl 0 rfl) ?_
  refine lv_aload_n hx hb dX5_readClause_10 rfl (lv_at hl 0 rfl) ?_
  have hPc := hP.sub (ws' := [(xTape, .inr (9, [.ref tB, .int 0])), (xReader, .inr (5, [.ref xTape, .ref rN, .int 0, .int 0, .int 0, .int 0, .int 0]))]) [1, 0] rfl
  have hDc := hD.sub (ws' := [(xTape, .inr (9, [.ref tB, .int 0])), (xReader, .inr (5, [.ref xTape, .ref rN, .int 0, .int 0, .int 0, .int 0, .int 0]))]) [1, 0] (by decide) rfl
  have hFc := va_free (wc := [(xTape, .inr (9, [.ref tB, .int 0])), (xReader, .inr (5, [.ref xTape, .ref rN, .int 0, .int 0, .int 0, .int 0, .int 0]))]) hD hS hA [1, 0] rfl
  refine va_calli (va_runV (As := []) (rest := [.ref xReader]) ⟨hx, hb, hml, hown, hts⟩ (c_X5_sign l dC dI cB cI cJ H.size xTape tB xReader rN) (cwV 0 hts gX5_readClause_X5_sign rfl rfl rfl (by decide +kernel) ⟨Nat.le_of_ble_eq_true rfl, Nat.le_of_ble_eq_true rfl⟩) ⟨fun a U g mk q => by obtain ⟨q0, q1, qP, qK, qD⟩ := q; exact ⟨q0, q1, qP, va_K.moved (u := U) (U := U.calling g mk a) (Vm.Alike.refl U.vm) qK, qD⟩, va_recv hK hP (ci := 5) (q0 := 0) rfl rfl, fun U hU hW => ⟨rfl, by rw [hU], by rw [hU]; exact hPc, va_K.moved hW.alike hK, hDc.weaken (fun _ _ _ _ => trivial)⟩⟩ rfl rfl hl.1 rfl (lv_room (Nat.le_of_ble_eq_true rfl)) dX5_readClause_11 ⟨Nat.le_of_ble_eq_true rfl, Nat.le_of_ble_eq_true rfl⟩) hS (fun q _ h => hFc q h) hFc (fun r_1 u t H1 locs ht hvm hw hB hz1 hk1 hS => ?_)
  obtain ⟨hP1, hK1, hD1⟩ := hB
  rw [ht] at hP1
  obtain ⟨hP, hD⟩ := va_join (wr := []) (w1 := [(xReader, .inr (5, [.ref xTape, .ref rN, .int 0, .int 0, .int 0, .int 0, .int 0])), (xTape, .inr (9, [.ref tB, .int 0]))]) hP hD [1, 0] [] rfl rfl (by decide) (by decide) hk1 hFc hP1 hD1
  generalize H1 = H at hP hS ⊢
  have hP : va_P (dC, dI) vwCl [(xReader, .inr (5, [.ref xTape, .ref rN, .int 0, .int 0, .int 0, .int 0, .int 0])), (xTape, .inr (9, [.ref tB, .int 0]))] H := hP
  have hD : va_D A [(xReader, .inr (5, [.ref xTape, .ref rN, .int 0, .int 0, .int 0, .int 0, .int 0])), (xTape, .inr (9, [.ref tB, .int 0]))] := hD
  have hr_1 := hw
  obtain rfl : r_1 = 0 := hr_1
  refine va_put (D := (dC, dI)) (ci := 5) (v := .int 0) (ty := .int) (C := RX5) (T := TX5) (N := 7) hx hb hts hiX5 tyX5 tyX5_ok nmX5 hown hK hP hD hS 0 rfl rfl 3 (by decide) (hts (.fieldLink RX5 56 "ScissorsTable$Reader" "kind" "I") (by decide +kernel)) (fun _ h9 => h9) rfl (by decide +kernel) rfl rfl (Nat.le_of_ble_eq_true rfl) dX5_readClause_14 (fun H locs hP hD hS => ?_)
  have hP : va_P (dC, dI) vwCl [(xReader, .inr (5, [.ref xTape, .ref rN, .int 0, .int 0, .int 0, .int 0, .int 0])), (xTape, .inr (9, [.ref tB, .int 0]))] H := hP
  have hD : va_D A [(xReader, .inr (5, [.ref xTape, .ref rN, .int 0, .int 0, .int 0, .int 0, .int 0])), (xTape, .inr (9, [.ref tB, .int 0]))] := hD
  refine lv_aload_n hx hb dX5_readClause_17 rfl (lv_at hl 0 rfl) ?_
  refine va_get (D := (dC, dI)) (ci := 5) (v := .int 0) (C := RX5) (T := TX5) (N := 7) hx hb hts hiX5 hown hK hP 0 rfl rfl 3 (by decide) (hts (.fieldLink RX5 56 "ScissorsTable$Reader" "kind" "I") (by decide +kernel)) (fun _ h9 => h9) rfl dX5_readClause_18 ?_
  refine lv_bipush (v := 116) hx hb dX5_readClause_21 (by decide) ?_
  refine lv_icmp_eq (tgt := 50) hx hb dX5_readClause_23 (by decide) (fun c => absurd c (by decide)) (fun _ => ?_)
  refine lv_aload_n hx hb dX5_readClause_26 rfl (lv_at hl 0 rfl) ?_
  refine va_get (D := (dC, dI)) (ci := 5) (v := .int 0) (C := RX5) (T := TX5) (N := 7) hx hb hts hiX5 hown hK hP 0 rfl rfl 3 (by decide) (hts (.fieldLink RX5 56 "ScissorsTable$Reader" "kind" "I") (by decide +kernel)) (fun _ h9 => h9) rfl dX5_readClause_27 ?_
  refine lv_bipush (v := 98) hx hb dX5_readClause_30 (by decide) ?_
  refine lv_icmp_eq (tgt := 50) hx hb dX5_readClause_32 (by decide) (fun c => absurd c (by decide)) (fun _ => ?_)
  refine lv_aload_n hx hb dX5_readClause_35 rfl (lv_at hl 0 rfl) ?_
  refine va_get (D := (dC, dI)) (ci := 5) (v := .int 0) (C := RX5) (T := TX5) (N := 7) hx hb hts hiX5 hown hK hP 0 rfl rfl 3 (by decide) (hts (.fieldLink RX5 56 "ScissorsTable$Reader" "kind" "I") (by decide +kernel)) (fun _ h9 => h9) rfl dX5_readClause_36 ?_
  refine lv_bipush (v := 112) hx hb dX5_readClause_39 (by decide) ?_
  refine lv_icmp_eq (tgt := 50) hx hb dX5_readClause_41 (by decide) (fun c => absurd c (by decide)) (fun _ => ?_)
  refine lv_aload_n hx hb dX5_readClause_44 rfl (lv_at hl 0 rfl) ?_
  refine lv_iconst (v := 1) hx hb dX5_readClause_45 (by decide) ?_
  refine va_put (D := (dC, dI)) (ci := 5) (v := .int 1) (ty := .boolean) (C := RX5) (T := TX5) (N := 7) hx hb hts hiX5 tyX5 tyX5_ok nmX5 hown hK hP hD hS 0 rfl rfl 6 (by decide) (hts (.fieldLink RX5 31 "ScissorsTable$Reader" "faulty" "Z") (by decide +kernel)) (fun _ h9 => h9) rfl (by decide +kernel) rfl rfl (Nat.le_of_ble_eq_true rfl) dX5_readClause_46 (fun H locs hP hD hS => ?_)
  have hP : va_P (dC, dI) vwCl [(xReader, .inr (5, [.ref xTape, .ref rN, .int 0, .int 0, .int 0, .int 0, .int 1])), (xTape, .inr (9, [.ref tB, .int 0]))] H := hP
  have hD : va_D A [(xReader, .inr (5, [.ref xTape, .ref rN, .int 0, .int 0, .int 0, .int 0, .int 1])), (xTape, .inr (9, [.ref tB, .int 0]))] := hD
  have hP9 := hP.sub (ws' := [(xReader, .inr (5, [.ref xTape, .ref rN, .int 0, .int 0, .int 0, .int 0, .int 1])), (xTape, .inr (9, [.ref tB, .int 0]))]) [0, 1] rfl
  have hD9 := hD.sub (ws' := [(xReader, .inr (5, [.ref xTape, .ref rN, .int 0, .int 0, .int 0, .int 0, .int 1])), (xTape, .inr (9, [.ref tB, .int 0]))]) [0, 1] (by decide) rfl
  refine W.widen (k := 0) (n := 0) (Nat.le_of_ble_eq_true rfl) (Nat.le_of_ble_eq_true rfl) ?_
  exact W.vret hx hb hr (fun t ht hW => ⟨⟨(), rfl, trivial, by rw [ht]; exact hP9, va_K.moved hW.alike hK, hD9⟩, hS.F ht⟩) hS.2.2 dX5_readClause_49
set_option maxHeartbeats 4000000 in
set_option maxRecDepth 100000 in
theorem c_X5_goesOn (l : Launch) (dC : Nat → ClassId) (dI : Nat → Nat → Nat) (cB cI cJ : ClassId) (sz : Nat) (xReader xTape rN : Nat) : Met l yX5_goesOn wsX5_goesOn ({ frames := 2, cells := 0, slots := 0, locals := 45 }) (va_Pc [.ref xReader] (fun U => U.heap.size = sz ∧ va_P (dC, dI) vwCl [(xReader, .inr (5, [.ref xTape, .ref rN, .int 0, .int 0, .int 0, .int 0, .int 1]))] U.heap ∧ va_K (dC, dI) vwCl [(cB, .byte), (cI, .int), (cJ, .long)] U ∧ va_D (fun _ => True) [(xReader, .inr (5, [.ref xTape, .ref rN, .int 0, .int 0, .int 0, .int 0, .int 1]))])) (va_Qi (fun (r : Int32) (_ : Unit) => r = 0) (fun _ t => va_P (dC, dI) vwCl [(xReader, .inr (5, [.ref xTape, .ref rN, .int 0, .int 0, .int 0, .int 0, .int 1]))] t.heap ∧ va_K (dC, dI) vwCl [(cB, .byte), (cI, .int), (cJ, .long)] t ∧ va_D (va_A [(xReader, .inr (5, [.ref xTape, .ref rN, .int 0, .int 0, .int 0, .int 0, .int 1]))] sz) [(xReader, .inr (5, [.ref xTape, .ref rN, .int 0, .int 0, .int 0, .int 0, .int 1]))]) (va_A [(xReader, .inr (5, [.ref xTape, .ref rN, .int 0, .int 0, .int 0, .int 0, .int 1]))] sz)) 0 0 (va_A [(xReader, .inr (5, [.ref xTape, .ref rN, .int 0, .int 0, .int 0, .int 0, .int 1]))] sz) := by
  refine Met.ofW (cc := cX5_goesOn) (maxL := 1) (ret := (some .boolean)) (by decide) rfl ?_
  intro p e s m args below meth c s₁ B hml hv
  obtain ⟨rfl, hsz, hP, hK, hD0⟩ := hv
  have hx := B.exec
  have hb := B.bytes
  have hr := B.returns
  have hts := atoms_spec (ws := wsX5_goesOn) B.pre
  have hown : s.vm.findClass RX5 = some m.cls := findClass_of_methodNamed B.named
  have hlocks := B.notSynchronized
  have hiX5 : ∀ w ∈ u_ws RX5 TX5 7, w ∈ wsX5_goesOn := by decide +kernel
  subst hsz
  have hD := hD0.self (sz := s.heap.size)
  generalize hAe : va_A [(xReader, .inr (5, [.ref xTape, .ref rN, .int 0, .int 0, .int 0, .int 0, .int 1]))] s.heap.size = A at hD ⊢
  have hA : ∀ q : Nat, s.heap.size ≤ q → A q := fun q h => by rw [← hAe]; exact Or.inr h
  have hS : va_S A s.heap s.heap [] := va_S.rf
  have hP : va_P (dC, dI) vwCl [(xReader, .inr (5, [.ref xTape, .ref rN, .int 0, .int 0, .int 0, .int 0, .int 1]))] s.heap := hP
  have hl := lv_entry ([.ref xReader]) (n := 1) (Nat.le_of_ble_eq_true rfl)
  rw [lg_entry_eq]
  generalize (lg_sl ([.ref xReader]) ++ List.replicate (1 - (lg_sl ([.ref xReader])).length) Slot.unset).toArray = ls at hl ⊢
  have hl : lv_has ls 1 [(0, .ref xReader)] := hl
  refine lv_aload_n hx hb dX5_goesOn_0 rfl (lv_at hl 0 rfl) ?_
  have hPc := hP.sub (ws' := [(xReader, .inr (5, [.ref xTape, .ref rN, .int 0, .int 0, .int 0, .int 0, .int 1]))]) [0] rfl
  have hDc := hD.sub (ws' := [(xReader, .inr (5, [.ref xTape, .ref rN, .int 0, .int 0, .int 0, .int 0, .int 1]))]) [0] (by decide) rfl
  have hFc := va_free (wc := [(xReader, .inr (5, [.ref xTape, .ref rN, .int 0, .int 0, .int 0, .int 0, .int 1]))]) hD hS hA [0] rfl
  refine va_callv (va_runV (As := []) (rest := []) ⟨hx, hb, hml, hown, hts⟩ (c_X5_skipBlanks_f l dC dI cB cI cJ s.heap.size xReader xTape rN) (cwV 0 hts gX5_goesOn_X5_skipBlanks rfl rfl rfl (by decide +kernel) ⟨Nat.le_of_ble_eq_true rfl, Nat.le_of_ble_eq_true rfl⟩) ⟨fun a U g mk q => by obtain ⟨q0, q1, qP, qK, qD⟩ := q; exact ⟨q0, q1, qP, va_K.moved (u := U) (U := U.calling g mk a) (Vm.Alike.refl U.vm) qK, qD⟩, va_recv hK hP (ci := 5) (q0 := 0) rfl rfl, fun U hU hW => ⟨rfl, by rw [hU], by rw [hU]; exact hPc, va_K.moved hW.alike hK, hDc.weaken (fun _ _ _ _ => trivial)⟩⟩ rfl rfl hl.1 rfl (lv_room (Nat.le_of_ble_eq_true rfl)) dX5_goesOn_1 ⟨Nat.le_of_ble_eq_true rfl, Nat.le_of_ble_eq_true rfl⟩) hS (fun q _ h => hFc q h) hFc (fun u t H1 locs ht hvm hw hB hz1 hk1 hS => ?_)
  obtain ⟨hP1, hK1, hD1⟩ := hB
  rw [ht] at hP1
  obtain ⟨hP, hD⟩ := va_join (wr := []) (w1 := [(xReader, .inr (5, [.ref xTape, .ref rN, .int 0, .int 0, .int 0, .int 0, .int 1]))]) hP hD [0] [] rfl rfl (by decide) (by decide) hk1 hFc hP1 hD1
  generalize H1 = H at hP hS ⊢
  have hP : va_P (dC, dI) vwCl [(xReader, .inr (5, [.ref xTape, .ref rN, .int 0, .int 0, .int 0, .int 0, .int 1]))] H := hP
  have hD : va_D A [(xReader, .inr (5, [.ref xTape, .ref rN, .int 0, .int 0, .int 0, .int 0, .int 1]))] := hD
  refine lv_aload_n hx hb dX5_goesOn_4 rfl (lv_at hl 0 rfl) ?_
  refine va_get (D := (dC, dI)) (ci := 5) (v := .int 1) (C := RX5) (T := TX5) (N := 7) hx hb hts hiX5 hown hK hP 0 rfl rfl 6 (by decide) (hts (.fieldLink RX5 31 "ScissorsTable$Reader" "faulty" "Z") (by decide +kernel)) (fun _ h9 => h9) rfl dX5_goesOn_5 ?_
  refine lv_if_ne (tgt := 25) hx hb dX5_goesOn_8 (by decide) (fun _ => ?_) (fun c => absurd c (by decide))
  refine lv_iconst (v := 0) hx hb dX5_goesOn_25 (by decide) ?_
  have hP9 := hP.sub (ws' := [(xReader, .inr (5, [.ref xTape, .ref rN, .int 0, .int 0, .int 0, .int 0, .int 1]))]) [0] rfl
  have hD9 := hD.sub (ws' := [(xReader, .inr (5, [.ref xTape, .ref rN, .int 0, .int 0, .int 0, .int 0, .int 1]))]) [0] (by decide) rfl
  refine W.widen (k := 0) (n := 0) (Nat.le_of_ble_eq_true rfl) (Nat.le_of_ble_eq_true rfl) ?_
  exact W.zret (v := 0) hx hb hr (by decide) (fun t ht hW => ⟨⟨0, (), rfl, rfl, by rw [ht]; exact hP9, va_K.moved hW.alike hK, hD9⟩, hS.F ht⟩) hS.2.2 dX5_goesOn_26
set_option maxHeartbeats 4000000 in
set_option maxRecDepth 100000 in
theorem c_X5_firstFault (l : Launch) (dC : Nat → ClassId) (dI : Nat → Nat → Nat) (cB cI cJ : ClassId) (sz : Nat) (xTape tB xReader rN : Nat) : Met l yX5_firstFault wsX5_firstFault ({ frames := 4, cells := 0, slots := 0, locals := 85 }) (va_Pc [.ref xReader] (fun U => U.heap.size = sz ∧ va_P (dC, dI) vwCl [(xTape, .inr (9, [.ref tB, .int 0])), (xReader, .inr (5, [.ref xTape, .ref rN, .int 0, .int 0, .int 0, .int 0, .int 0]))] U.heap ∧ va_K (dC, dI) vwCl [(cB, .byte), (cI, .int), (cJ, .long)] U ∧ va_D (fun _ => True) [(xTape, .inr (9, [.ref tB, .int 0])), (xReader, .inr (5, [.ref xTape, .ref rN, .int 0, .int 0, .int 0, .int 0, .int 0]))])) (va_Qi (fun (r : Int32) (_ : Unit) => r = 0) (fun _ _ => True) (va_A [(xTape, .inr (9, [.ref tB, .int 0])), (xReader, .inr (5, [.ref xTape, .ref rN, .int 0, .int 0, .int 0, .int 0, .int 0]))] sz)) 0 0 (va_A [(xTape, .inr (9, [.ref tB, .int 0])), (xReader, .inr (5, [.ref xTape, .ref rN, .int 0, .int 0, .int 0, .int 0, .int 0]))] sz) := by
  refine Met.ofW (cc := cX5_firstFault) (maxL := 3) (ret := (some .int)) (by decide) rfl ?_
  intro p e s m args below meth c s₁ B hml hv
  obtain ⟨rfl, hsz, hP, hK, hD0⟩ := hv
  have hx := B.exec
  have hb := B.bytes
  have hr := B.returns
  have hts := atoms_spec (ws := wsX5_firstFault) B.pre
  have hown : s.vm.findClass RX5 = some m.cls := findClass_of_methodNamed B.named
  have hlocks := B.notSynchronized
  have hiX5 : ∀ w ∈ u_ws RX5 TX5 7, w ∈ wsX5_firstFault := by decide +kernel
  subst hsz
  have hD := hD0.self (sz := s.heap.size)
  generalize hAe : va_A [(xTape, .inr (9, [.ref tB, .int 0])), (xReader, .inr (5, [.ref xTape, .ref rN, .int 0, .int 0, .int 0, .int 0, .int 0]))] s.heap.size = A at hD ⊢
  have hA : ∀ q : Nat, s.heap.size ≤ q → A q := fun q h => by rw [← hAe]; exact Or.inr h
  have hS : va_S A s.heap s.heap [] := va_S.rf
  have hP : va_P (dC, dI) vwCl [(xTape, .inr (9, [.ref tB, .int 0])), (xReader, .inr (5, [.ref xTape, .ref rN, .int 0, .int 0, .int 0, .int 0, .int 0]))] s.heap := hP
  have hl := lv_entry ([.ref xReader]) (n := 3) (Nat.le_of_ble_eq_true rfl)
  rw [lg_entry_eq]
  generalize (lg_sl ([.ref xReader]) ++ List.replicate (3 - (lg_sl ([.ref xReader])).length) Slot.unset).toArray = ls at hl ⊢
  have hl : lv_has ls 3 [(0, .ref xReader)] := hl
  refine lv_aload_n hx hb dX5_firstFault_0 rfl (lv_at hl 0 rfl) ?_
  have hPc := hP.sub (ws' := [(xReader, .inr (5, [.ref xTape, .ref rN, .int 0, .int 0, .int 0, .int 0, .int 0]))]) [1] rfl
  have hDc := hD.sub (ws' := [(xReader, .inr (5, [.ref xTape, .ref rN, .int 0, .int 0, .int 0, .int 0, .int 0]))]) [1] (by decide) rfl
  have hFc := va_free (wc := [(xReader, .inr (5, [.ref xTape, .ref rN, .int 0, .int 0, .int 0, .int 0, .int 0]))]) hD hS hA [1] rfl
  refine va_callv (va_runV (As := []) (rest := []) ⟨hx, hb, hml, hown, hts⟩ (c_X5_begin l dC dI cB cI cJ s.heap.size xReader xTape rN) (cwV 0 hts gX5_firstFault_X5_begin rfl rfl rfl (by decide +kernel) ⟨Nat.le_of_ble_eq_true rfl, Nat.le_of_ble_eq_true rfl⟩) ⟨fun a U g mk q => by obtain ⟨q0, q1, qP, qK, qD⟩ := q; exact ⟨q0, q1, qP, va_K.moved (u := U) (U := U.calling g mk a) (Vm.Alike.refl U.vm) qK, qD⟩, va_recv hK hP (ci := 5) (q0 := 1) rfl rfl, fun U hU hW => ⟨rfl, by rw [hU], by rw [hU]; exact hPc, va_K.moved hW.alike hK, hDc.weaken (fun _ _ _ _ => trivial)⟩⟩ rfl rfl hl.1 rfl (lv_room (Nat.le_of_ble_eq_true rfl)) dX5_firstFault_1 ⟨Nat.le_of_ble_eq_true rfl, Nat.le_of_ble_eq_true rfl⟩) hS (fun q _ h => hFc q h) hFc (fun u t H1 locs ht hvm hw hB hz1 hk1 hS => ?_)
  obtain ⟨hP1, hK1, hD1⟩ := hB
  rw [ht] at hP1
  obtain ⟨hP, hD⟩ := va_join (wr := [(xTape, .inr (9, [.ref tB, .int 0]))]) (w1 := [(xReader, .inr (5, [.ref xTape, .ref rN, .int 0, .int 0, .int 0, .int 0, .int 0]))]) hP hD [1] [0] rfl rfl (by decide) (by decide) hk1 hFc hP1 hD1
  generalize H1 = H at hP hS ⊢
  have hP : va_P (dC, dI) vwCl [(xTape, .inr (9, [.ref tB, .int 0])), (xReader, .inr (5, [.ref xTape, .ref rN, .int 0, .int 0, .int 0, .int 0, .int 0]))] H := hP
  have hD : va_D A [(xTape, .inr (9, [.ref tB, .int 0])), (xReader, .inr (5, [.ref xTape, .ref rN, .int 0, .int 0, .int 0, .int 0, .int 0]))] := hD
  refine lv_iconst (v := 1) hx hb dX5_firstFault_4 (by decide) ?_
  refine lv_istore_n (lv' := [(1, .int 1), (0, .ref xReader)]) hx hb dX5_firstFault_5 rfl hl (by decide) rfl (fun ls hl => ?_)
  refine lv_iconst (v := 0) hx hb dX5_firstFault_6 (by decide) ?_
  refine lv_istore_n (lv' := [(2, .int 0), (1, .int 1), (0, .ref xReader)]) hx hb dX5_firstFault_7 rfl hl (by decide) rfl (fun ls hl => ?_)
  refine lv_iload_n hx hb dX5_firstFault_8 rfl (lv_at hl 0 rfl) ?_
  refine lv_sipush (v := 600) hx hb dX5_firstFault_9 (by decide) ?_
  refine lv_icmp_gt (tgt := 34) hx hb dX5_firstFault_12 (by decide) (fun c => absurd c (by decide)) (fun _ => ?_)
  refine lv_iload_n hx hb dX5_firstFault_15 rfl (lv_at hl 1 rfl) ?_
  refine lv_if_eq (tgt := 34) hx hb dX5_firstFault_16 (by decide) (fun c => absurd c (by decide)) (fun _ => ?_)
  refine lv_aload_n hx hb dX5_firstFault_19 rfl (lv_at hl 2 rfl) ?_
  have hPc := hP.sub (ws' := [(xTape, .inr (9, [.ref tB, .int 0])), (xReader, .inr (5, [.ref xTape, .ref rN, .int 0, .int 0, .int 0, .int 0, .int 0]))]) [0, 1] rfl
  have hDc := hD.sub (ws' := [(xTape, .inr (9, [.ref tB, .int 0])), (xReader, .inr (5, [.ref xTape, .ref rN, .int 0, .int 0, .int 0, .int 0, .int 0]))]) [0, 1] (by decide) rfl
  have hFc := va_free (wc := [(xTape, .inr (9, [.ref tB, .int 0])), (xReader, .inr (5, [.ref xTape, .ref rN, .int 0, .int 0, .int 0, .int 0, .int 0]))]) hD hS hA [0, 1] rfl
  refine va_callv (va_runV (As := []) (rest := []) ⟨hx, hb, hml, hown, hts⟩ (c_X5_readClause l dC dI cB cI cJ H.size xTape tB xReader rN) (cwV 0 hts gX5_firstFault_X5_readClause rfl rfl rfl (by decide +kernel) ⟨Nat.le_of_ble_eq_true rfl, Nat.le_of_ble_eq_true rfl⟩) ⟨fun a U g mk q => by obtain ⟨q0, q1, qP, qK, qD⟩ := q; exact ⟨q0, q1, qP, va_K.moved (u := U) (U := U.calling g mk a) (Vm.Alike.refl U.vm) qK, qD⟩, va_recv hK hP (ci := 5) (q0 := 1) rfl rfl, fun U hU hW => ⟨rfl, by rw [hU], by rw [hU]; exact hPc, va_K.moved hW.alike hK, hDc.weaken (fun _ _ _ _ => trivial)⟩⟩ rfl rfl hl.1 rfl (lv_room (Nat.le_of_ble_eq_true rfl)) dX5_firstFault_20 ⟨Nat.le_of_ble_eq_true rfl, Nat.le_of_ble_eq_true rfl⟩) hS (fun q _ h => hFc q h) hFc (fun u t H1 locs ht hvm hw hB hz1 hk1 hS => ?_)
  obtain ⟨hP1, hK1, hD1⟩ := hB
  rw [ht] at hP1
  obtain ⟨hP, hD⟩ := va_join (wr := []) (w1 := [(xReader, .inr (5, [.ref xTape, .ref rN, .int 0, .int 0, .int 0, .int 0, .int 1])), (xTape, .inr (9, [.ref tB, .int 0]))]) hP hD [0, 1] [] rfl rfl (by decide) (by decide) hk1 hFc hP1 hD1
  generalize H1 = H at hP hS ⊢
  have hP : va_P (dC, dI) vwCl [(xReader, .inr (5, [.ref xTape, .ref rN, .int 0, .int 0, .int 0, .int 0, .int 1])), (xTape, .inr (9, [.ref tB, .int 0]))] H := hP
  have hD : va_D A [(xReader, .inr (5, [.ref xTape, .ref rN, .int 0, .int 0, .int 0, .int 0, .int 1])), (xTape, .inr (9, [.ref tB, .int 0]))] := hD
  refine lv_aload_n hx hb dX5_firstFault_23 rfl (lv_at hl 2 rfl) ?_
  have hPc := hP.sub (ws' := [(xReader, .inr (5, [.ref xTape, .ref rN, .int 0, .int 0, .int 0, .int 0, .int 1]))]) [0] rfl
  have hDc := hD.sub (ws' := [(xReader, .inr (5, [.ref xTape, .ref rN, .int 0, .int 0, .int 0, .int 0, .int 1]))]) [0] (by decide) rfl
  have hFc := va_free (wc := [(xReader, .inr (5, [.ref xTape, .ref rN, .int 0, .int 0, .int 0, .int 0, .int 1]))]) hD hS hA [0] rfl
  refine va_calli (va_runV (As := []) (rest := []) ⟨hx, hb, hml, hown, hts⟩ (c_X5_goesOn l dC dI cB cI cJ H.size xReader xTape rN) (cwV 0 hts gX5_firstFault_X5_goesOn rfl rfl rfl (by decide +kernel) ⟨Nat.le_of_ble_eq_true rfl, Nat.le_of_ble_eq_true rfl⟩) ⟨fun a U g mk q => by obtain ⟨q0, q1, qP, qK, qD⟩ := q; exact ⟨q0, q1, qP, va_K.moved (u := U) (U := U.calling g mk a) (Vm.Alike.refl U.vm) qK, qD⟩, va_recv hK hP (ci := 5) (q0 := 0) rfl rfl, fun U hU hW => ⟨rfl, by rw [hU], by rw [hU]; exact hPc, va_K.moved hW.alike hK, hDc.weaken (fun _ _ _ _ => trivial)⟩⟩ rfl rfl hl.1 rfl (lv_room (Nat.le_of_ble_eq_true rfl)) dX5_firstFault_24 ⟨Nat.le_of_ble_eq_true rfl, Nat.le_of_ble_eq_true rfl⟩) hS (fun q _ h => hFc q h) hFc (fun r_1 u t H1 locs ht hvm hw hB hz1 hk1 hS => ?_)
  obtain ⟨hP1, hK1, hD1⟩ := hB
  rw [ht] at hP1
  obtain ⟨hP, hD⟩ := va_join (wr := [(xTape, .inr (9, [.ref tB, .int 0]))]) (w1 := [(xReader, .inr (5, [.ref xTape, .ref rN, .int 0, .int 0, .int 0, .int 0, .int 1]))]) hP hD [0] [1] rfl rfl (by decide) (by decide) hk1 hFc hP1 hD1
  generalize H1 = H at hP hS ⊢
  have hP : va_P (dC, dI) vwCl [(xTape, .inr (9, [.ref tB, .int 0])), (xReader, .inr (5, [.ref xTape, .ref rN, .int 0, .int 0, .int 0, .int 0, .int 1]))] H := hP
  have hD : va_D A [(xTape, .inr (9, [.ref tB, .int 0])), (xReader, .inr (5, [.ref xTape, .ref rN, .int 0, .int 0, .int 0, .int 0, .int 1]))] := hD
  have hr_1 := hw
  obtain rfl : r_1 = 0 := hr_1
  refine lv_istore_n (lv' := [(1, .int 0), (2, .int 0), (0, .ref xReader)]) hx hb dX5_firstFault_27 rfl hl (by decide) rfl (fun ls hl => ?_)
  refine lv_iinc (v := 1) (lv' := [(2, .int 1), (1, .int 0), (0, .ref xReader)]) hx hb dX5_firstFault_28 hl (k := 1) rfl (by decide) (by decide) rfl (fun ls hl => ?_)
  refine lv_goto (tgt := 8) hx hb dX5_firstFault_31 (by decide) ?_
  refine lv_iload_n hx hb dX5_firstFault_8 rfl (lv_at hl 0 rfl) ?_
  refine lv_sipush (v := 600) hx hb dX5_firstFault_9 (by decide) ?_
  refine lv_icmp_gt (tgt := 34) hx hb dX5_firstFault_12 (by decide) (fun c => absurd c (by decide)) (fun _ => ?_)
  refine lv_iload_n hx hb dX5_firstFault_15 rfl (lv_at hl 1 rfl) ?_
  refine lv_if_eq (tgt := 34) hx hb dX5_firstFault_16 (by decide) (fun _ => ?_) (fun c => absurd (by decide) c)
  refine lv_aload_n hx hb dX5_firstFault_34 rfl (lv_at hl 2 rfl) ?_
  refine va_get (D := (dC, dI)) (ci := 5) (v := .int 1) (C := RX5) (T := TX5) (N := 7) hx hb hts hiX5 hown hK hP 1 rfl rfl 6 (by decide) (hts (.fieldLink RX5 31 "ScissorsTable$Reader" "faulty" "Z") (by decide +kernel)) (fun _ h9 => h9) rfl dX5_firstFault_35 ?_
  refine lv_if_eq (tgt := 48) hx hb dX5_firstFault_38 (by decide) (fun c => absurd c (by decide)) (fun _ => ?_)
  refine lv_aload_n hx hb dX5_firstFault_41 rfl (lv_at hl 2 rfl) ?_
  refine va_get (D := (dC, dI)) (ci := 5) (v := .int 0) (C := RX5) (T := TX5) (N := 7) hx hb hts hiX5 hown hK hP 1 rfl rfl 5 (by decide) (hts (.fieldLink RX5 35 "ScissorsTable$Reader" "at" "I") (by decide +kernel)) (fun _ h9 => h9) rfl dX5_firstFault_42 ?_
  refine lv_goto (tgt := 49) hx hb dX5_firstFault_45 (by decide) ?_
  refine W.widen (k := 0) (n := 0) (Nat.le_of_ble_eq_true rfl) (Nat.le_of_ble_eq_true rfl) ?_
  exact W.iret (v := 0) hx hb hr (fun t ht hW => ⟨⟨0, (), rfl, rfl, trivial⟩, hS.F ht⟩) hS.2.2 dX5_firstFault_49
set_option maxHeartbeats 4000000 in
set_option maxRecDepth 100000 in
theorem c_X10_fault (l : Launch) (dC : Nat → ClassId) (dI : Nat → Nat → Nat) (cB cI cJ : ClassId) (sz : Nat) (x0 xTape xReader xBag xBld xAng xSum xPik xHan xIns xShr xSta xTur tB rN : Nat) : Met l yX10_fault wsX10_fault ({ frames := 5, cells := 0, slots := 0, locals := 107 }) (va_Pc [.ref x0] (fun U => U.heap.size = sz ∧ va_P (dC, dI) vwCl [(x0, .inr (10, [.ref xTape, .ref xReader, .ref xBag, .ref xBld, .ref xAng, .ref xSum, .ref xPik, .int 0, .ref xHan, .ref xIns, .ref xShr, .ref xSta, .ref xTur])), (xTape, .inr (9, [.ref tB, .int 0])), (xReader, .inr (5, [.ref xTape, .ref rN, .int 0, .int 0, .int 0, .int 0, .int 0]))] U.heap ∧ va_K (dC, dI) vwCl [(cB, .byte), (cI, .int), (cJ, .long)] U ∧ va_D (fun _ => True) [(x0, .inr (10, [.ref xTape, .ref xReader, .ref xBag, .ref xBld, .ref xAng, .ref xSum, .ref xPik, .int 0, .ref xHan, .ref xIns, .ref xShr, .ref xSta, .ref xTur])), (xTape, .inr (9, [.ref tB, .int 0])), (xReader, .inr (5, [.ref xTape, .ref rN, .int 0, .int 0, .int 0, .int 0, .int 0]))])) (va_Qi (fun (r : Int32) (_ : Unit) => r = 0) (fun _ _ => True) (va_A [(x0, .inr (10, [.ref xTape, .ref xReader, .ref xBag, .ref xBld, .ref xAng, .ref xSum, .ref xPik, .int 0, .ref xHan, .ref xIns, .ref xShr, .ref xSta, .ref xTur])), (xTape, .inr (9, [.ref tB, .int 0])), (xReader, .inr (5, [.ref xTape, .ref rN, .int 0, .int 0, .int 0, .int 0, .int 0]))] sz)) 0 0 (va_A [(x0, .inr (10, [.ref xTape, .ref xReader, .ref xBag, .ref xBld, .ref xAng, .ref xSum, .ref xPik, .int 0, .ref xHan, .ref xIns, .ref xShr, .ref xSta, .ref xTur])), (xTape, .inr (9, [.ref tB, .int 0])), (xReader, .inr (5, [.ref xTape, .ref rN, .int 0, .int 0, .int 0, .int 0, .int 0]))] sz) := by
  refine Met.ofW (cc := cX10_fault) (maxL := 1) (ret := (some .int)) (by decide) rfl ?_
  intro p e s m args below meth c s₁ B hml hv
  obtain ⟨rfl, hsz, hP, hK, hD0⟩ := hv
  have hx := B.exec
  have hb := B.bytes
  have hr := B.returns
  have hts := atoms_spec (ws := wsX10_fault) B.pre
  have hown : s.vm.findClass RX10 = some m.cls := findClass_of_methodNamed B.named
  have hlocks := B.notSynchronized
  have hiX10 : ∀ w ∈ u_ws RX10 TX10 13, w ∈ wsX10_fault := by decide +kernel
  subst hsz
  have hD := hD0.self (sz := s.heap.size)
  generalize hAe : va_A [(x0, .inr (10, [.ref xTape, .ref xReader, .ref xBag, .ref xBld, .ref xAng, .ref xSum, .ref xPik, .int 0, .ref xHan, .ref xIns, .ref xShr, .ref xSta, .ref xTur])), (xTape, .inr (9, [.ref tB, .int 0])), (xReader, .inr (5, [.ref xTape, .ref rN, .int 0, .int 0, .int 0, .int 0, .int 0]))] s.heap.size = A at hD ⊢
  have hA : ∀ q : Nat, s.heap.size ≤ q → A q := fun q h => by rw [← hAe]; exact Or.inr h
  have hS : va_S A s.heap s.heap [] := va_S.rf
  have hP : va_P (dC, dI) vwCl [(x0, .inr (10, [.ref xTape, .ref xReader, .ref xBag, .ref xBld, .ref xAng, .ref xSum, .ref xPik, .int 0, .ref xHan, .ref xIns, .ref xShr, .ref xSta, .ref xTur])), (xTape, .inr (9, [.ref tB, .int 0])), (xReader, .inr (5, [.ref xTape, .ref rN, .int 0, .int 0, .int 0, .int 0, .int 0]))] s.heap := hP
  have hl := lv_entry ([.ref x0]) (n := 1) (Nat.le_of_ble_eq_true rfl)
  rw [lg_entry_eq]
  generalize (lg_sl ([.ref x0]) ++ List.replicate (1 - (lg_sl ([.ref x0])).length) Slot.unset).toArray = ls at hl ⊢
  have hl : lv_has ls 1 [(0, .ref x0)] := hl
  refine lv_aload_n hx hb dX10_fault_0 rfl (lv_at hl 0 rfl) ?_
  refine va_get (D := (dC, dI)) (ci := 10) (v := .ref xReader) (C := RX10) (T := TX10) (N := 13) hx hb hts hiX10 hown hK hP 0 rfl rfl 1 (by decide) (hts (.fieldLink RX10 21 "ScissorsTable" "reader" "LScissorsTable$Reader;") (by decide +kernel)) (fun _ h9 => h9) rfl dX10_fault_1 ?_
  have hPc := hP.sub (ws' := [(xTape, .inr (9, [.ref tB, .int 0])), (xReader, .inr (5, [.ref xTape, .ref rN, .int 0, .int 0, .int 0, .int 0, .int 0]))]) [1, 2] rfl
  have hDc := hD.sub (ws' := [(xTape, .inr (9, [.ref tB, .int 0])), (xReader, .inr (5, [.ref xTape, .ref rN, .int 0, .int 0, .int 0, .int 0, .int 0]))]) [1, 2] (by decide) rfl
  have hFc := va_free (wc := [(xTape, .inr (9, [.ref tB, .int 0])), (xReader, .inr (5, [.ref xTape, .ref rN, .int 0, .int 0, .int 0, .int 0, .int 0]))]) hD hS hA [1, 2] rfl
  refine va_calli (va_runV (As := []) (rest := []) ⟨hx, hb, hml, hown, hts⟩ (c_X5_firstFault l dC dI cB cI cJ s.heap.size xTape tB xReader rN) (cwV 0 hts gX10_fault_X5_firstFault rfl rfl rfl (by decide +kernel) ⟨Nat.le_of_ble_eq_true rfl, Nat.le_of_ble_eq_true rfl⟩) ⟨fun a U g mk q => by obtain ⟨q0, q1, qP, qK, qD⟩ := q; exact ⟨q0, q1, qP, va_K.moved (u := U) (U := U.calling g mk a) (Vm.Alike.refl U.vm) qK, qD⟩, va_recv hK hP (ci := 5) (q0 := 2) rfl rfl, fun U hU hW => ⟨rfl, by rw [hU], by rw [hU]; exact hPc, va_K.moved hW.alike hK, hDc.weaken (fun _ _ _ _ => trivial)⟩⟩ rfl rfl hl.1 rfl (lv_room (Nat.le_of_ble_eq_true rfl)) dX10_fault_4 ⟨Nat.le_of_ble_eq_true rfl, Nat.le_of_ble_eq_true rfl⟩) hS (fun q _ h => hFc q h) hFc (fun r_1 u t H1 locs ht hvm hw hB hz1 hk1 hS => ?_)
  have hP1 : va_P (dC, dI) vwCl [] H1 := fun k q h => by simp at h
  have hD1 : va_D (va_A [(xTape, .inr (9, [.ref tB, .int 0])), (xReader, .inr (5, [.ref xTape, .ref rN, .int 0, .int 0, .int 0, .int 0, .int 0]))] s.heap.size) [] := ⟨fun i j p q h => by simp at h, fun k q h => by simp at h⟩
  obtain ⟨hP, hD⟩ := va_join (wr := [(x0, .inr (10, [.ref xTape, .ref xReader, .ref xBag, .ref xBld, .ref xAng, .ref xSum, .ref xPik, .int 0, .ref xHan, .ref xIns, .ref xShr, .ref xSta, .ref xTur]))]) (w1 := []) hP hD [1, 2] [0] rfl rfl (by decide) (by decide) hk1 hFc hP1 hD1
  generalize H1 = H at hP hS ⊢
  have hP : va_P (dC, dI) vwCl [(x0, .inr (10, [.ref xTape, .ref xReader, .ref xBag, .ref xBld, .ref xAng, .ref xSum, .ref xPik, .int 0, .ref xHan, .ref xIns, .ref xShr, .ref xSta, .ref xTur]))] H := hP
  have hD : va_D A [(x0, .inr (10, [.ref xTape, .ref xReader, .ref xBag, .ref xBld, .ref xAng, .ref xSum, .ref xPik, .int 0, .ref xHan, .ref xIns, .ref xShr, .ref xSta, .ref xTur]))] := hD
  have hr_1 := hw
  obtain rfl : r_1 = 0 := hr_1
  refine W.widen (k := 0) (n := 0) (Nat.le_of_ble_eq_true rfl) (Nat.le_of_ble_eq_true rfl) ?_
  exact W.iret (v := 0) hx hb hr (fun t ht hW => ⟨⟨0, (), rfl, rfl, trivial⟩, hS.F ht⟩) hS.2.2 dX10_fault_7
set_option maxHeartbeats 4000000 in
set_option maxRecDepth 100000 in
theorem c_X10_text (l : Launch) (dC : Nat → ClassId) (dI : Nat → Nat → Nat) (cB cI cJ : ClassId) (sz : Nat) (x0 xTape xReader xBag xBld xAng xSum xPik xHan xIns xShr xSta xTur tB rN : Nat) : Met l yX10_text wsX10_text ({ frames := 5, cells := 0, slots := 0, locals := 107 }) (va_Pc [.ref x0] (fun U => U.heap.size = sz ∧ va_P (dC, dI) vwCl [(x0, .inr (10, [.ref xTape, .ref xReader, .ref xBag, .ref xBld, .ref xAng, .ref xSum, .ref xPik, .int 0, .ref xHan, .ref xIns, .ref xShr, .ref xSta, .ref xTur])), (xTape, .inr (9, [.ref tB, .int 0])), (xReader, .inr (5, [.ref xTape, .ref rN, .int 0, .int 0, .int 0, .int 0, .int 0]))] U.heap ∧ va_K (dC, dI) vwCl [(cB, .byte), (cI, .int), (cJ, .long)] U ∧ va_D (fun _ => True) [(x0, .inr (10, [.ref xTape, .ref xReader, .ref xBag, .ref xBld, .ref xAng, .ref xSum, .ref xPik, .int 0, .ref xHan, .ref xIns, .ref xShr, .ref xSta, .ref xTur])), (xTape, .inr (9, [.ref tB, .int 0])), (xReader, .inr (5, [.ref xTape, .ref rN, .int 0, .int 0, .int 0, .int 0, .int 0]))])) (va_Qi (fun (r : Int32) (_ : Unit) => r = (-1)) (fun _ _ => True) (va_A [(x0, .inr (10, [.ref xTape, .ref xReader, .ref xBag, .ref xBld, .ref xAng, .ref xSum, .ref xPik, .int 0, .ref xHan, .ref xIns, .ref xShr, .ref xSta, .ref xTur])), (xTape, .inr (9, [.ref tB, .int 0])), (xReader, .inr (5, [.ref xTape, .ref rN, .int 0, .int 0, .int 0, .int 0, .int 0]))] sz)) 0 0 (va_A [(x0, .inr (10, [.ref xTape, .ref xReader, .ref xBag, .ref xBld, .ref xAng, .ref xSum, .ref xPik, .int 0, .ref xHan, .ref xIns, .ref xShr, .ref xSta, .ref xTur])), (xTape, .inr (9, [.ref tB, .int 0])), (xReader, .inr (5, [.ref xTape, .ref rN, .int 0, .int 0, .int 0, .int 0, .int 0]))] sz) := by
  refine Met.ofW (cc := cX10_text) (maxL := 5) (ret := (some .int)) (by decide) rfl ?_
  intro p e s m args below meth c s₁ B hml hv
  obtain ⟨rfl, hsz, hP, hK, hD0⟩ := hv
  have hx := B.exec
  have hb := B.bytes
  have hr := B.returns
  have hts := atoms_spec (ws := wsX10_text) B.pre
  have hown : s.vm.findClass RX10 = some m.cls := findClass_of_methodNamed B.named
  have hlocks := B.notSynchronized
  have hiX10 : ∀ w ∈ u_ws RX10 TX10 13, w ∈ wsX10_text := by decide +kernel
  subst hsz
  have hD := hD0.self (sz := s.heap.size)
  generalize hAe : va_A [(x0, .inr (10, [.ref xTape, .ref xReader, .ref xBag, .ref xBld, .ref xAng, .ref xSum, .ref xPik, .int 0, .ref xHan, .ref xIns, .ref xShr, .ref xSta, .ref xTur])), (xTape, .inr (9, [.ref tB, .int 0])), (xReader, .inr (5, [.ref xTape, .ref rN, .int 0, .int 0, .int 0, .int 0, .int 0]))] s.heap.size = A at hD ⊢
  have hA : ∀ q : Nat, s.heap.size ≤ q → A q := fun q h => by rw [← hAe]; exact Or.inr h
  have hS : va_S A s.heap s.heap [] := va_S.rf
  have hP : va_P (dC, dI) vwCl [(x0, .inr (10, [.ref xTape, .ref xReader, .ref xBag, .ref xBld, .ref xAng, .ref xSum, .ref xPik, .int 0, .ref xHan, .ref xIns, .ref xShr, .ref xSta, .ref xTur])), (xTape, .inr (9, [.ref tB, .int 0])), (xReader, .inr (5, [.ref xTape, .ref rN, .int 0, .int 0, .int 0, .int 0, .int 0]))] s.heap := hP
  have hl := lv_entry ([.ref x0]) (n := 5) (Nat.le_of_ble_eq_true rfl)
  rw [lg_entry_eq]
  generalize (lg_sl ([.ref x0]) ++ List.replicate (5 - (lg_sl ([.ref x0])).length) Slot.unset).toArray = ls at hl ⊢
  have hl : lv_has ls 5 [(0, .ref x0)] := hl
  refine lv_aload_n hx hb dX10_text_0 rfl (lv_at hl 0 rfl) ?_
  refine va_get (D := (dC, dI)) (ci := 10) (v := .ref xReader) (C := RX10) (T := TX10) (N := 13) hx hb hts hiX10 hown hK hP 0 rfl rfl 1 (by decide) (hts (.fieldLink RX10 21 "ScissorsTable" "reader" "LScissorsTable$Reader;") (by decide +kernel)) (fun _ h9 => h9) rfl dX10_text_1 ?_
  have hPc := hP.sub (ws' := [(xTape, .inr (9, [.ref tB, .int 0])), (xReader, .inr (5, [.ref xTape, .ref rN, .int 0, .int 0, .int 0, .int 0, .int 0]))]) [1, 2] rfl
  have hDc := hD.sub (ws' := [(xTape, .inr (9, [.ref tB, .int 0])), (xReader, .inr (5, [.ref xTape, .ref rN, .int 0, .int 0, .int 0, .int 0, .int 0]))]) [1, 2] (by decide) rfl
  have hFc := va_free (wc := [(xTape, .inr (9, [.ref tB, .int 0])), (xReader, .inr (5, [.ref xTape, .ref rN, .int 0, .int 0, .int 0, .int 0, .int 0]))]) hD hS hA [1, 2] rfl
  refine va_calli (va_runV (As := []) (rest := []) ⟨hx, hb, hml, hown, hts⟩ (c_X5_firstFault l dC dI cB cI cJ s.heap.size xTape tB xReader rN) (cwV 0 hts gX10_text_X5_firstFault rfl rfl rfl (by decide +kernel) ⟨Nat.le_of_ble_eq_true rfl, Nat.le_of_ble_eq_true rfl⟩) ⟨fun a U g mk q => by obtain ⟨q0, q1, qP, qK, qD⟩ := q; exact ⟨q0, q1, qP, va_K.moved (u := U) (U := U.calling g mk a) (Vm.Alike.refl U.vm) qK, qD⟩, va_recv hK hP (ci := 5) (q0 := 2) rfl rfl, fun U hU hW => ⟨rfl, by rw [hU], by rw [hU]; exact hPc, va_K.moved hW.alike hK, hDc.weaken (fun _ _ _ _ => trivial)⟩⟩ rfl rfl hl.1 rfl (lv_room (Nat.le_of_ble_eq_true rfl)) dX10_text_4 ⟨Nat.le_of_ble_eq_true rfl, Nat.le_of_ble_eq_true rfl⟩) hS (fun q _ h => hFc q h) hFc (fun r_1 u t H1 locs ht hvm hw hB hz1 hk1 hS => ?_)
  have hP1 : va_P (dC, dI) vwCl [] H1 := fun k q h => by simp at h
  have hD1 : va_D (va_A [(xTape, .inr (9, [.ref tB, .int 0])), (xReader, .inr (5, [.ref xTape, .ref rN, .int 0, .int 0, .int 0, .int 0, .int 0]))] s.heap.size) [] := ⟨fun i j p q h => by simp at h, fun k q h => by simp at h⟩
  obtain ⟨hP, hD⟩ := va_join (wr := [(x0, .inr (10, [.ref xTape, .ref xReader, .ref xBag, .ref xBld, .ref xAng, .ref xSum, .ref xPik, .int 0, .ref xHan, .ref xIns, .ref xShr, .ref xSta, .ref xTur]))]) (w1 := []) hP hD [1, 2] [0] rfl rfl (by decide) (by decide) hk1 hFc hP1 hD1
  generalize H1 = H at hP hS ⊢
  have hP : va_P (dC, dI) vwCl [(x0, .inr (10, [.ref xTape, .ref xReader, .ref xBag, .ref xBld, .ref xAng, .ref xSum, .ref xPik, .int 0, .ref xHan, .ref xIns, .ref xShr, .ref xSta, .ref xTur]))] H := hP
  have hD : va_D A [(x0, .inr (10, [.ref xTape, .ref xReader, .ref xBag, .ref xBld, .ref xAng, .ref xSum, .ref xPik, .int 0, .ref xHan, .ref xIns, .ref xShr, .ref xSta, .ref xTur]))] := hD
  have hr_1 := hw
  obtain rfl : r_1 = 0 := hr_1
  refine lv_iconst (v := (-1)) hx hb dX10_text_7 (by decide) ?_
  refine lv_icmp_eq (tgt := 13) hx hb dX10_text_8 (by decide) (fun c => absurd c (by decide)) (fun _ => ?_)
  refine lv_iconst (v := (-1)) hx hb dX10_text_11 (by decide) ?_
  refine W.widen (k := 0) (n := 0) (Nat.le_of_ble_eq_true rfl) (Nat.le_of_ble_eq_true rfl) ?_
  exact W.iret (v := (-1)) hx hb hr (fun t ht hW => ⟨⟨(-1), (), rfl, rfl, trivial⟩, hS.F ht⟩) hS.2.2 dX10_text_12
