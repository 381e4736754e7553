theorem dX3_canTell_0 : decode cX3_canTell 0 = .ok (.iconst 0, 1) := by decide +kernel
theorem dX3_canTell_1 : decode cX3_canTell 1 = .ok (.istore_n 1, 1) := by decide +kernel
theorem dX3_canTell_2 : decode cX3_canTell 2 = .ok (.iload_n 1, 1) := by decide +kernel
theorem dX3_canTell_3 : decode cX3_canTell 3 = .ok (.aload_n 0, 1) := by decide +kernel
theorem dX3_canTell_4 : decode cX3_canTell 4 = .ok (.getfield 22, 3) := by decide +kernel
theorem dX3_canTell_7 : decode cX3_canTell 7 = .ok (.arraylength, 1) := by decide +kernel
theorem dX3_canTell_8 : decode cX3_canTell 8 = .ok (.if_icmp .ge 36, 3) := by decide +kernel
theorem dX3_canTell_11 : decode cX3_canTell 11 = .ok (.aload_n 0, 1) := by decide +kernel
theorem dX3_canTell_12 : decode cX3_canTell 12 = .ok (.getfield 32, 3) := by decide +kernel
theorem dX3_canTell_15 : decode cX3_canTell 15 = .ok (.ifCond .eq 23, 3) := by decide +kernel
theorem dX3_canTell_18 : decode cX3_canTell 18 = .ok (.aload_n 0, 1) := by decide +kernel
theorem dX3_canTell_19 : decode cX3_canTell 19 = .ok (.getfield 22, 3) := by decide +kernel
theorem dX3_canTell_22 : decode cX3_canTell 22 = .ok (.iload_n 1, 1) := by decide +kernel
theorem dX3_canTell_23 : decode cX3_canTell 23 = .ok (.laload, 1) := by decide +kernel
theorem dX3_canTell_24 : decode cX3_canTell 24 = .ok (.aload_n 0, 1) := by decide +kernel
theorem dX3_canTell_25 : decode cX3_canTell 25 = .ok (.getfield 22, 3) := by decide +kernel
theorem dX3_canTell_28 : decode cX3_canTell 28 = .ok (.iload_n 1, 1) := by decide +kernel
theorem dX3_canTell_29 : decode cX3_canTell 29 = .ok (.laload, 1) := by decide +kernel
theorem dX3_canTell_30 : decode cX3_canTell 30 = .ok (.l2i, 1) := by decide +kernel
theorem dX3_canTell_31 : decode cX3_canTell 31 = .ok (.i2l, 1) := by decide +kernel
theorem dX3_canTell_32 : decode cX3_canTell 32 = .ok (.lcmp, 1) := by decide +kernel
theorem dX3_canTell_33 : decode cX3_canTell 33 = .ok (.ifCond .eq 5, 3) := by decide +kernel
theorem dX3_canTell_38 : decode cX3_canTell 38 = .ok (.iinc 1 1, 3) := by decide +kernel
theorem dX3_canTell_41 : decode cX3_canTell 41 = .ok (.goto (-39), 3) := by decide +kernel
theorem dX3_canTell_44 : decode cX3_canTell 44 = .ok (.aload_n 0, 1) := by decide +kernel
theorem dX3_canTell_45 : decode cX3_canTell 45 = .ok (.getfield 32, 3) := by decide +kernel
theorem dX3_canTell_48 : decode cX3_canTell 48 = .ok (.ireturn, 1) := by decide +kernel
theorem dX3_timesOf_0 : decode cX3_timesOf 0 = .ok (.iload_n 1, 1) := by decide +kernel
theorem dX3_timesOf_1 : decode cX3_timesOf 1 = .ok (.ifCond .lt 22, 3) := by decide +kernel
theorem dX3_timesOf_4 : decode cX3_timesOf 4 = .ok (.iload_n 1, 1) := by decide +kernel
theorem dX3_timesOf_5 : decode cX3_timesOf 5 = .ok (.aload_n 0, 1) := by decide +kernel
theorem dX3_timesOf_6 : decode cX3_timesOf 6 = .ok (.getfield 22, 3) := by decide +kernel
theorem dX3_timesOf_9 : decode cX3_timesOf 9 = .ok (.arraylength, 1) := by decide +kernel
theorem dX3_timesOf_10 : decode cX3_timesOf 10 = .ok (.if_icmp .ge 13, 3) := by decide +kernel
theorem dX3_timesOf_13 : decode cX3_timesOf 13 = .ok (.aload_n 0, 1) := by decide +kernel
theorem dX3_timesOf_14 : decode cX3_timesOf 14 = .ok (.getfield 22, 3) := by decide +kernel
theorem dX3_timesOf_17 : decode cX3_timesOf 17 = .ok (.iload_n 1, 1) := by decide +kernel
theorem dX3_timesOf_18 : decode cX3_timesOf 18 = .ok (.laload, 1) := by decide +kernel
theorem dX3_timesOf_19 : decode cX3_timesOf 19 = .ok (.l2i, 1) := by decide +kernel
theorem dX3_timesOf_20 : decode cX3_timesOf 20 = .ok (.goto 4, 3) := by decide +kernel
theorem dX3_timesOf_24 : decode cX3_timesOf 24 = .ok (.ireturn, 1) := by decide +kernel
set_option maxRecDepth 20000 in
theorem ggX10_rankOf_X10_isSetOfSolids : GoodIn wsX10_rankOf wsX10_isSetOfSolids := goodIn_r _ [6] (by decide +kernel) (by decide +kernel)
set_option maxRecDepth 20000 in
theorem gX10_rankOf_X10_isSetOfSolids : GoodIn wsX10_rankOf (va_wsS RX10 322 yX10_isSetOfSolids wsX10_isSetOfSolids) := goodIn_app (goodIn_of _ (by decide +kernel)) ggX10_rankOf_X10_isSetOfSolids
set_option maxRecDepth 20000 in
theorem ggX10_rankOf_X10_hangSolids : GoodIn wsX10_rankOf wsX10_hangSolids := goodIn_r _ [10, 1, 11, 12, 13, 14, 15, 16, 17, 18, 19, 20, 21, 22, 23, 24, 25, 26, 27, 28, 29, 30, 31, 32, 33, 34, 35, 36, 37, 38, 39, 40, 41, 42, 43, 44, 45, 46, 47, 48, 49, 50, 51, 52, 5, 53, 54, 55, 56, 57, 58, 59, 60, 61, 62, 63, 64, 65, 66, 67, 68, 69, 70, 71, 72, 73, 74, 75, 76, 77, 78, 79, 80, 81] (by decide +kernel) (by decide +kernel)
set_option maxRecDepth 20000 in
theorem gX10_rankOf_X10_hangSolids : GoodIn wsX10_rankOf (wsV RX10 325 RX10 yX10_hangSolids wsX10_hangSolids) := goodIn_app (goodIn_of _ (by decide +kernel)) ggX10_rankOf_X10_hangSolids
theorem dX10_rankOf_0 : decode cX10_rankOf 0 = .ok (.iload_n 1, 1) := by decide +kernel
theorem dX10_rankOf_1 : decode cX10_rankOf 1 = .ok (.invokestatic 322, 3) := by decide +kernel
theorem dX10_rankOf_4 : decode cX10_rankOf 4 = .ok (.ifCond .ne 5, 3) := by decide +kernel
theorem dX10_rankOf_7 : decode cX10_rankOf 7 = .ok (.iconst (-1), 1) := by decide +kernel
theorem dX10_rankOf_8 : decode cX10_rankOf 8 = .ok (.ireturn, 1) := by decide +kernel
theorem dX10_rankOf_9 : decode cX10_rankOf 9 = .ok (.aload_n 0, 1) := by decide +kernel
theorem dX10_rankOf_10 : decode cX10_rankOf 10 = .ok (.iload_n 1, 1) := by decide +kernel
theorem dX10_rankOf_11 : decode cX10_rankOf 11 = .ok (.invokevirtual 325, 3) := by decide +kernel
theorem dX10_rankOf_14 : decode cX10_rankOf 14 = .ok (.aload_n 0, 1) := by decide +kernel
theorem dX10_rankOf_15 : decode cX10_rankOf 15 = .ok (.getfield 61, 3) := by decide +kernel
theorem dX10_rankOf_18 : decode cX10_rankOf 18 = .ok (.getfield 313, 3) := by decide +kernel
theorem dX10_rankOf_21 : decode cX10_rankOf 21 = .ok (.ireturn, 1) := by decide +kernel
theorem dJ6_bitCount_0f7a4_0 : decode cJ6_bitCount_0f7a4 0 = .ok (.iload_n 0, 1) := by decide +kernel
theorem dJ6_bitCount_0f7a4_1 : decode cJ6_bitCount_0f7a4 1 = .ok (.iload_n 0, 1) := by decide +kernel
theorem dJ6_bitCount_0f7a4_2 : decode cJ6_bitCount_0f7a4 2 = .ok (.iconst 1, 1) := by decide +kernel
theorem dJ6_bitCount_0f7a4_3 : decode cJ6_bitCount_0f7a4 3 = .ok (.iushr, 1) := by decide +kernel
theorem dJ6_bitCount_0f7a4_4 : decode cJ6_bitCount_0f7a4 4 = .ok (.ldc_w 265, 3) := by decide +kernel
theorem dJ6_bitCount_0f7a4_7 : decode cJ6_bitCount_0f7a4 7 = .ok (.iand, 1) := by decide +kernel
theorem dJ6_bitCount_0f7a4_8 : decode cJ6_bitCount_0f7a4 8 = .ok (.isub, 1) := by decide +kernel
theorem dJ6_bitCount_0f7a4_9 : decode cJ6_bitCount_0f7a4 9 = .ok (.istore_n 0, 1) := by decide +kernel
theorem dJ6_bitCount_0f7a4_10 : decode cJ6_bitCount_0f7a4 10 = .ok (.iload_n 0, 1) := by decide +kernel
theorem dJ6_bitCount_0f7a4_11 : decode cJ6_bitCount_0f7a4 11 = .ok (.ldc_w 266, 3) := by decide +kernel
theorem dJ6_bitCount_0f7a4_14 : decode cJ6_bitCount_0f7a4 14 = .ok (.iand, 1) := by decide +kernel
theorem dJ6_bitCount_0f7a4_15 : decode cJ6_bitCount_0f7a4 15 = .ok (.iload_n 0, 1) := by decide +kernel
theorem dJ6_bitCount_0f7a4_16 : decode cJ6_bitCount_0f7a4 16 = .ok (.iconst 2, 1) := by decide +kernel
theorem dJ6_bitCount_0f7a4_17 : decode cJ6_bitCount_0f7a4 17 = .ok (.iushr, 1) := by decide +kernel
theorem dJ6_bitCount_0f7a4_18 : decode cJ6_bitCount_0f7a4 18 = .ok (.ldc_w 266, 3) := by decide +kernel
theorem dJ6_bitCount_0f7a4_21 : decode cJ6_bitCount_0f7a4 21 = .ok (.iand, 1) := by decide +kernel
theorem dJ6_bitCount_0f7a4_22 : decode cJ6_bitCount_0f7a4 22 = .ok (.iadd, 1) := by decide +kernel
theorem dJ6_bitCount_0f7a4_23 : decode cJ6_bitCount_0f7a4 23 = .ok (.istore_n 0, 1) := by decide +kernel
theorem dJ6_bitCount_0f7a4_24 : decode cJ6_bitCount_0f7a4 24 = .ok (.iload_n 0, 1) := by decide +kernel
theorem dJ6_bitCount_0f7a4_25 : decode cJ6_bitCount_0f7a4 25 = .ok (.iload_n 0, 1) := by decide +kernel
theorem dJ6_bitCount_0f7a4_26 : decode cJ6_bitCount_0f7a4 26 = .ok (.iconst 4, 1) := by decide +kernel
theorem dJ6_bitCount_0f7a4_27 : decode cJ6_bitCount_0f7a4 27 = .ok (.iushr, 1) := by decide +kernel
theorem dJ6_bitCount_0f7a4_28 : decode cJ6_bitCount_0f7a4 28 = .ok (.iadd, 1) := by decide +kernel
theorem dJ6_bitCount_0f7a4_29 : decode cJ6_bitCount_0f7a4 29 = .ok (.ldc_w 267, 3) := by decide +kernel
theorem dJ6_bitCount_0f7a4_32 : decode cJ6_bitCount_0f7a4 32 = .ok (.iand, 1) := by decide +kernel
theorem dJ6_bitCount_0f7a4_33 : decode cJ6_bitCount_0f7a4 33 = .ok (.istore_n 0, 1) := by decide +kernel
theorem dJ6_bitCount_0f7a4_34 : decode cJ6_bitCount_0f7a4 34 = .ok (.iload_n 0, 1) := by decide +kernel
theorem dJ6_bitCount_0f7a4_35 : decode cJ6_bitCount_0f7a4 35 = .ok (.iload_n 0, 1) := by decide +kernel
theorem dJ6_bitCount_0f7a4_36 : decode cJ6_bitCount_0f7a4 36 = .ok (.bipush 8, 2) := by decide +kernel
theorem dJ6_bitCount_0f7a4_38 : decode cJ6_bitCount_0f7a4 38 = .ok (.iushr, 1) := by decide +kernel
theorem dJ6_bitCount_0f7a4_39 : decode cJ6_bitCount_0f7a4 39 = .ok (.iadd, 1) := by decide +kernel
theorem dJ6_bitCount_0f7a4_40 : decode cJ6_bitCount_0f7a4 40 = .ok (.istore_n 0, 1) := by decide +kernel
theorem dJ6_bitCount_0f7a4_41 : decode cJ6_bitCount_0f7a4 41 = .ok (.iload_n 0, 1) := by decide +kernel
theorem dJ6_bitCount_0f7a4_42 : decode cJ6_bitCount_0f7a4 42 = .ok (.iload_n 0, 1) := by decide +kernel
theorem dJ6_bitCount_0f7a4_43 : decode cJ6_bitCount_0f7a4 43 = .ok (.bipush 16, 2) := by decide +kernel
theorem dJ6_bitCount_0f7a4_45 : decode cJ6_bitCount_0f7a4 45 = .ok (.iushr, 1) := by decide +kernel
theorem dJ6_bitCount_0f7a4_46 : decode cJ6_bitCount_0f7a4 46 = .ok (.iadd, 1) := by decide +kernel
theorem dJ6_bitCount_0f7a4_47 : decode cJ6_bitCount_0f7a4 47 = .ok (.istore_n 0, 1) := by decide +kernel
theorem dJ6_bitCount_0f7a4_48 : decode cJ6_bitCount_0f7a4 48 = .ok (.iload_n 0, 1) := by decide +kernel
theorem dJ6_bitCount_0f7a4_49 : decode cJ6_bitCount_0f7a4 49 = .ok (.bipush 63, 2) := by decide +kernel
theorem dJ6_bitCount_0f7a4_51 : decode cJ6_bitCount_0f7a4 51 = .ok (.iand, 1) := by decide +kernel
theorem dJ6_bitCount_0f7a4_52 : decode cJ6_bitCount_0f7a4 52 = .ok (.ireturn, 1) := by decide +kernel
set_option maxHeartbeats 4000000 in
set_option maxRecDepth 100000 in
theorem c_J6_bitCount_0f7a4_0 (l : Launch) (dC : Nat → ClassId) (dI : Nat → Nat → Nat) (cB cI cJ : ClassId) (sz : Nat)  : Met l yJ6_bitCount_0f7a4 wsJ6_bitCount_0f7a4 ({ frames := 1, cells := 0, slots := 0, locals := 24 }) (va_Pc [.int 0] (fun U => U.heap.size = sz ∧ va_P (dC, dI) vwCl [] U.heap ∧ va_K (dC, dI) vwCl [(cB, .byte), (cI, .int), (cJ, .long)] U ∧ va_D (fun _ => True) [])) (va_Qi (fun (r : Int32) (_ : Unit) => r = 0) (fun _ _ => True) (va_A [] sz)) 0 0 (va_A [] sz) := by
  refine Met.ofW (cc := cJ6_bitCount_0f7a4) (maxL := 1) (ret := (some .int)) (by decide) rfl ?_
  intro p e s m args below meth c s₁ B hml hv
  obtain ⟨rfl, hsz, hP, hK, hD0⟩ := hv
  have hx := B.exec
  have hb := B.bytes
  have hr := B.returns
  have hts := atoms_spec (ws := wsJ6_bitCount_0f7a4) B.pre
  have hown : s.vm.findClass RJ6 = some m.cls := findClass_of_methodNamed B.named
  have hlocks := B.notSynchronized
  subst hsz
  have hD := hD0.self (sz := s.heap.size)
  generalize hAe : va_A [] s.heap.size = A at hD ⊢
  have hA : ∀ q : Nat, s.heap.size ≤ q → A q := fun q h => by rw [← hAe]; exact Or.inr h
  have hS : va_S A s.heap s.heap [] := va_S.rf
  have hP : va_P (dC, dI) vwCl [] s.heap := hP
  have hl := lv_entry ([.int 0]) (n := 1) (Nat.le_of_ble_eq_true rfl)
  rw [lg_entry_eq]
  generalize (lg_sl ([.int 0]) ++ List.replicate (1 - (lg_sl ([.int 0])).length) Slot.unset).toArray = ls at hl ⊢
  have hl : lv_has ls 1 [(0, .int 0)] := hl
  refine lv_iload_n hx hb dJ6_bitCount_0f7a4_0 rfl (lv_at hl 0 rfl) ?_
  refine lv_iload_n hx hb dJ6_bitCount_0f7a4_1 rfl (lv_at hl 0 rfl) ?_
  refine lv_iconst (v := 1) hx hb dJ6_bitCount_0f7a4_2 (by decide) ?_
  refine lv_iushr (v := 0) hx hb dJ6_bitCount_0f7a4_3 (by decide) ?_
  refine lv_ldcw (v := 1431655765) hx hb hown (hts (.constant RJ6 265 1431655765) (by decide +kernel)) dJ6_bitCount_0f7a4_4 ?_
  refine lv_iand hx hb dJ6_bitCount_0f7a4_7 ?_
  refine lv_topi (fun x_1 ex_1 => ?_)
  obtain rfl : x_1 = 0 := ex_1.trans (by first | rfl | decide)
  refine lv_isub hx hb dJ6_bitCount_0f7a4_8 ?_
  refine lv_topi (fun x_2 ex_2 => ?_)
  obtain rfl : x_2 = 0 := ex_2.trans (by first | rfl | decide)
  refine lv_istore_n (lv' := [(0, .int 0)]) hx hb dJ6_bitCount_0f7a4_9 rfl hl (by decide) rfl (fun ls hl => ?_)
  refine lv_iload_n hx hb dJ6_bitCount_0f7a4_10 rfl (lv_at hl 0 rfl) ?_
  refine lv_ldcw (v := 858993459) hx hb hown (hts (.constant RJ6 266 858993459) (by decide +kernel)) dJ6_bitCount_0f7a4_11 ?_
  refine lv_iand hx hb dJ6_bitCount_0f7a4_14 ?_
  refine lv_topi (fun x_3 ex_3 => ?_)
  obtain rfl : x_3 = 0 := ex_3.trans (by first | rfl | decide)
  refine lv_iload_n hx hb dJ6_bitCount_0f7a4_15 rfl (lv_at hl 0 rfl) ?_
  refine lv_iconst (v := 2) hx hb dJ6_bitCount_0f7a4_16 (by decide) ?_
  refine lv_iushr (v := 0) hx hb dJ6_bitCount_0f7a4_17 (by decide) ?_
  refine lv_ldcw (v := 858993459) hx hb hown (hts (.constant RJ6 266 858993459) (by decide +kernel)) dJ6_bitCount_0f7a4_18 ?_
  refine lv_iand hx hb dJ6_bitCount_0f7a4_21 ?_
  refine lv_topi (fun x_4 ex_4 => ?_)
  obtain rfl : x_4 = 0 := ex_4.trans (by first | rfl | decide)
  refine lv_iadd hx hb dJ6_bitCount_0f7a4_22 ?_
  refine lv_topi (fun x_5 ex_5 => ?_)
  obtain rfl : x_5 = 0 := ex_5.trans (by first | rfl | decide)
  refine lv_istore_n (lv' := [(0, .int 0)]) hx hb dJ6_bitCount_0f7a4_23 rfl hl (by decide) rfl (fun ls hl => ?_)
  refine lv_iload_n hx hb dJ6_bitCount_0f7a4_24 rfl (lv_at hl 0 rfl) ?_
  refine lv_iload_n hx hb dJ6_bitCount_0f7a4_25 rfl (lv_at hl 0 rfl) ?_
  refine lv_iconst (v := 4) hx hb dJ6_bitCount_0f7a4_26 (by decide) ?_
  refine lv_iushr (v := 0) hx hb dJ6_bitCount_0f7a4_27 (by decide) ?_
  refine lv_iadd hx hb dJ6_bitCount_0f7a4_28 ?_
  refine lv_topi (fun x_6 ex_6 => ?_)
  obtain rfl : x_6 = 0 := ex_6.trans (by first | rfl | decide)
  refine lv_ldcw (v := 252645135) hx hb hown (hts (.constant RJ6 267 252645135) (by decide +kernel)) dJ6_bitCount_0f7a4_29 ?_
  refine lv_iand hx hb dJ6_bitCount_0f7a4_32 ?_
  refine lv_topi (fun x_7 ex_7 => ?_)
  obtain rfl : x_7 = 0 := ex_7.trans (by first | rfl | decide)
  refine lv_istore_n (lv' := [(0, .int 0)]) hx hb dJ6_bitCount_0f7a4_33 rfl hl (by decide) rfl (fun ls hl => ?_)
  refine lv_iload_n hx hb dJ6_bitCount_0f7a4_34 rfl (lv_at hl 0 rfl) ?_
  refine lv_iload_n hx hb dJ6_bitCount_0f7a4_35 rfl (lv_at hl 0 rfl) ?_
  refine lv_bipush (v := 8) hx hb dJ6_bitCount_0f7a4_36 (by decide) ?_
  refine lv_iushr (v := 0) hx hb dJ6_bitCount_0f7a4_38 (by decide) ?_
  refine lv_iadd hx hb dJ6_bitCount_0f7a4_39 ?_
  refine lv_topi (fun x_8 ex_8 => ?_)
  obtain rfl : x_8 = 0 := ex_8.trans (by first | rfl | decide)
  refine lv_istore_n (lv' := [(0, .int 0)]) hx hb dJ6_bitCount_0f7a4_40 rfl hl (by decide) rfl (fun ls hl => ?_)
  refine lv_iload_n hx hb dJ6_bitCount_0f7a4_41 rfl (lv_at hl 0 rfl) ?_
  refine lv_iload_n hx hb dJ6_bitCount_0f7a4_42 rfl (lv_at hl 0 rfl) ?_
  refine lv_bipush (v := 16) hx hb dJ6_bitCount_0f7a4_43 (by decide) ?_
  refine lv_iushr (v := 0) hx hb dJ6_bitCount_0f7a4_45 (by decide) ?_
  refine lv_iadd hx hb dJ6_bitCount_0f7a4_46 ?_
  refine lv_topi (fun x_9 ex_9 => ?_)
  obtain rfl : x_9 = 0 := ex_9.trans (by first | rfl | decide)
  refine lv_istore_n (lv' := [(0, .int 0)]) hx hb dJ6_bitCount_0f7a4_47 rfl hl (by decide) rfl (fun ls hl => ?_)
  refine lv_iload_n hx hb dJ6_bitCount_0f7a4_48 rfl (lv_at hl 0 rfl) ?_
  refine lv_bipush (v := 63) hx hb dJ6_bitCount_0f7a4_49 (by decide) ?_
  refine lv_iand hx hb dJ6_bitCount_0f7a4_51 ?_
  refine lv_topi (fun x_10 ex_10 => ?_)
  obtain rfl : x_10 = 0 := ex_10.trans (by first | rfl | decide)
  refine W.widen (k := 0) (n := 0) (Nat.le_of_ble_eq_true rfl) (Nat.le_of_ble_eq_true rfl) ?_
  exact W.iret (v := 0) hx hb hr (fun t ht hW => ⟨⟨0, (), rfl, rfl, trivial⟩, hS.F ht⟩) hS.2.2 dJ6_bitCount_0f7a4_52
set_option maxHeartbeats 4000000 in
set_option maxRecDepth 100000 in
theorem c_J6_bitCount_0f7a4_1 (l : Launch) (dC : Nat → ClassId) (dI : Nat → Nat → Nat) (cB cI cJ : ClassId) (sz : Nat)  : Met l yJ6_bitCount_0f7a4 wsJ6_bitCount_0f7a4 ({ frames := 1, cells := 0, slots := 0, locals := 24 }) (va_Pc [.int 1] (fun U => U.heap.size = sz ∧ va_P (dC, dI) vwCl [] U.heap ∧ va_K (dC, dI) vwCl [(cB, .byte), (cI, .int), (cJ, .long)] U ∧ va_D (fun _ => True) [])) (va_Qi (fun (r : Int32) (_ : Unit) => r = 1) (fun _ _ => True) (va_A [] sz)) 0 0 (va_A [] sz) := by
  refine Met.ofW (cc := cJ6_bitCount_0f7a4) (maxL := 1) (ret := (some .int)) (by decide) rfl ?_
  intro p e s m args below meth c s₁ B hml hv
  obtain ⟨rfl, hsz, hP, hK, hD0⟩ := hv
  have hx := B.exec
  have hb := B.bytes
  have hr := B.returns
  have hts := atoms_spec (ws := wsJ6_bitCount_0f7a4) B.pre
  have hown : s.vm.findClass RJ6 = some m.cls := findClass_of_methodNamed B.named
  have hlocks := B.notSynchronized
  subst hsz
  have hD := hD0.self (sz := s.heap.size)
  generalize hAe : va_A [] s.heap.size = A at hD ⊢
  have hA : ∀ q : Nat, s.heap.size ≤ q → A q := fun q h => by rw [← hAe]; exact Or.inr h
  have hS : va_S A s.heap s.heap [] := va_S.rf
  have hP : va_P (dC, dI) vwCl [] s.heap := hP
  have hl := lv_entry ([.int 1]) (n := 1) (Nat.le_of_ble_eq_true rfl)
  rw [lg_entry_eq]
  generalize (lg_sl ([.int 1]) ++ List.replicate (1 - (lg_sl ([.int 1])).length) Slot.unset).toArray = ls at hl ⊢
  have hl : lv_has ls 1 [(0, .int 1)] := hl
  refine lv_iload_n hx hb dJ6_bitCount_0f7a4_0 rfl (lv_at hl 0 rfl) ?_
  refine lv_iload_n hx hb dJ6_bitCount_0f7a4_1 rfl (lv_at hl 0 rfl) ?_
  refine lv_iconst (v := 1) hx hb dJ6_bitCount_0f7a4_2 (by decide) ?_
  refine lv_iushr (v := 0) hx hb dJ6_bitCount_0f7a4_3 (by decide) ?_
  refine lv_ldcw (v := 1431655765) hx hb hown (hts (.constant RJ6 265 1431655765) (by decide +kernel)) dJ6_bitCount_0f7a4_4 ?_
  refine lv_iand hx hb dJ6_bitCount_0f7a4_7 ?_
  refine lv_topi (fun x_1 ex_1 => ?_)
  obtain rfl : x_1 = 0 := ex_1.trans (by first | rfl | decide)
  refine lv_isub hx hb dJ6_bitCount_0f7a4_8 ?_
  refine lv_topi (fun x_2 ex_2 => ?_)
  obtain rfl : x_2 = 1 := ex_2.trans (by first | rfl | decide)
  refine lv_istore_n (lv' := [(0, .int 1)]) hx hb dJ6_bitCount_0f7a4_9 rfl hl (by decide) rfl (fun ls hl => ?_)
  refine lv_iload_n hx hb dJ6_bitCount_0f7a4_10 rfl (lv_at hl 0 rfl) ?_
  refine lv_ldcw (v := 858993459) hx hb hown (hts (.constant RJ6 266 858993459) (by decide +kernel)) dJ6_bitCount_0f7a4_11 ?_
  refine lv_iand hx hb dJ6_bitCount_0f7a4_14 ?_
  refine lv_topi (fun x_3 ex_3 => ?_)
  obtain rfl : x_3 = 1 := ex_3.trans (by first | rfl | decide)
  refine lv_iload_n hx hb dJ6_bitCount_0f7a4_15 rfl (lv_at hl 0 rfl) ?_
  refine lv_iconst (v := 2) hx hb dJ6_bitCount_0f7a4_16 (by decide) ?_
  refine lv_iushr (v := 0) hx hb dJ6_bitCount_0f7a4_17 (by decide) ?_
  refine lv_ldcw (v := 858993459) hx hb hown (hts (.constant RJ6 266 858993459) (by decide +kernel)) dJ6_bitCount_0f7a4_18 ?_
  refine lv_iand hx hb dJ6_bitCount_0f7a4_21 ?_
  refine lv_topi (fun x_4 ex_4 => ?_)
  obtain rfl : x_4 = 0 := ex_4.trans (by first | rfl | decide)
  refine lv_iadd hx hb dJ6_bitCount_0f7a4_22 ?_
  refine lv_topi (fun x_5 ex_5 => ?_)
  obtain rfl : x_5 = 1 := ex_5.trans (by first | rfl | decide)
  refine lv_istore_n (lv' := [(0, .int 1)]) hx hb dJ6_bitCount_0f7a4_23 rfl hl (by decide) rfl (fun ls hl => ?_)
  refine lv_iload_n hx hb dJ6_bitCount_0f7a4_24 rfl (lv_at hl 0 rfl) ?_
  refine lv_iload_n hx hb dJ6_bitCount_0f7a4_25 rfl (lv_at hl 0 rfl) ?_
  refine lv_iconst (v := 4) hx hb dJ6_bitCount_0f7a4_26 (by decide) ?_
  refine lv_iushr (v := 0) hx hb dJ6_bitCount_0f7a4_27 (by decide) ?_
  refine lv_iadd hx hb dJ6_bitCount_0f7a4_28 ?_
  refine lv_topi (fun x_6 ex_6 => ?_)
  obtain rfl : x_6 = 1 := ex_6.trans (by first | rfl | decide)
  refine lv_ldcw (v := 252645135) hx hb hown (hts (.constant RJ6 267 252645135) (by decide +kernel)) dJ6_bitCount_0f7a4_29 ?_
  refine lv_iand hx hb dJ6_bitCount_0f7a4_32 ?_
  refine lv_topi (fun x_7 ex_7 => ?_)
  obtain rfl : x_7 = 1 := ex_7.trans (by first | rfl | decide)
  refine lv_istore_n (lv' := [(0, .int 1)]) hx hb dJ6_bitCount_0f7a4_33 rfl hl (by decide) rfl (fun ls hl => ?_)
  refine lv_iload_n hx hb dJ6_bitCount_0f7a4_34 rfl (lv_at hl 0 rfl) ?_
  refine lv_iload_n hx hb dJ6_bitCount_0f7a4_35 rfl (lv_at hl 0 rfl) ?_
  refine lv_bipush (v := 8) hx hb dJ6_bitCount_0f7a4_36 (by decide) ?_
  refine lv_iushr (v := 0) hx hb dJ6_bitCount_0f7a4_38 (by decide) ?_
  refine lv_iadd hx hb dJ6_bitCount_0f7a4_39 ?_
  refine lv_topi (fun x_8 ex_8 => ?_)
  obtain rfl : x_8 = 1 := ex_8.trans (by first | rfl | decide)
  refine lv_istore_n (lv' := [(0, .int 1)]) hx hb dJ6_bitCount_0f7a4_40 rfl hl (by decide) rfl (fun ls hl => ?_)
  refine lv_iload_n hx hb dJ6_bitCount_0f7a4_41 rfl (lv_at hl 0 rfl) ?_
  refine lv_iload_n hx hb dJ6_bitCount_0f7a4_42 rfl (lv_at hl 0 rfl) ?_
  refine lv_bipush (v := 16) hx hb dJ6_bitCount_0f7a4_43 (by decide) ?_
  refine lv_iushr (v := 0) hx hb dJ6_bitCount_0f7a4_45 (by decide) ?_
  refine lv_iadd hx hb dJ6_bitCount_0f7a4_46 ?_
  refine lv_topi (fun x_9 ex_9 => ?_)
  obtain rfl : x_9 = 1 := ex_9.trans (by first | rfl | decide)
  refine lv_istore_n (lv' := [(0, .int 1)]) hx hb dJ6_bitCount_0f7a4_47 rfl hl (by decide) rfl (fun ls hl => ?_)
  refine lv_iload_n hx hb dJ6_bitCount_0f7a4_48 rfl (lv_at hl 0 rfl) ?_
  refine lv_bipush (v := 63) hx hb dJ6_bitCount_0f7a4_49 (by decide) ?_
  refine lv_iand hx hb dJ6_bitCount_0f7a4_51 ?_
  refine lv_topi (fun x_10 ex_10 => ?_)
  obtain rfl : x_10 = 1 := ex_10.trans (by first | rfl | decide)
  refine W.widen (k := 0) (n := 0) (Nat.le_of_ble_eq_true rfl) (Nat.le_of_ble_eq_true rfl) ?_
  exact W.iret (v := 1) hx hb hr (fun t ht hW => ⟨⟨1, (), rfl, rfl, trivial⟩, hS.F ht⟩) hS.2.2 dJ6_bitCount_0f7a4_52
set_option maxHeartbeats 4000000 in
set_option maxRecDepth 100000 in
theorem c_J6_bitCount_0f7a4_2 (l : Launch) (dC : Nat → ClassId) (dI : Nat → Nat → Nat) (cB cI cJ : ClassId) (sz : Nat)  : Met l yJ6_bitCount_0f7a4 wsJ6_bitCount_0f7a4 ({ frames := 1, cells := 0, slots := 0, locals := 24 }) (va_Pc [.int 2] (fun U => U.heap.size = sz ∧ va_P (dC, dI) vwCl [] U.heap ∧ va_K (dC, dI) vwCl [(cB, .byte), (cI, .int), (cJ, .long)] U ∧ va_D (fun _ => True) [])) (va_Qi (fun (r : Int32) (_ : Unit) => r = 1) (fun _ _ => True) (va_A [] sz)) 0 0 (va_A [] sz) := by
  refine Met.ofW (cc := cJ6_bitCount_0f7a4) (maxL := 1) (ret := (some .int)) (by decide) rfl ?_
  intro p e s m args below meth c s₁ B hml hv
  obtain ⟨rfl, hsz, hP, hK, hD0⟩ := hv
  have hx := B.exec
  have hb := B.bytes
  have hr := B.returns
  have hts := atoms_spec (ws := wsJ6_bitCount_0f7a4) B.pre
  have hown : s.vm.findClass RJ6 = some m.cls := findClass_of_methodNamed B.named
  have hlocks := B.notSynchronized
  subst hsz
  have hD := hD0.self (sz := s.heap.size)
  generalize hAe : va_A [] s.heap.size = A at hD ⊢
  have hA : ∀ q : Nat, s.heap.size ≤ q → A q := fun q h => by rw [← hAe]; exact Or.inr h
  have hS : va_S A s.heap s.heap [] := va_S.rf
  have hP : va_P (dC, dI) vwCl [] s.heap := hP
  have hl := lv_entry ([.int 2]) (n := 1) (Nat.le_of_ble_eq_true rfl)
  rw [lg_entry_eq]
  generalize (lg_sl ([.int 2]) ++ List.replicate (1 - (lg_sl ([.int 2])).length) Slot.unset).toArray = ls at hl ⊢
  have hl : lv_has ls 1 [(0, .int 2)] := hl
  refine lv_iload_n hx hb dJ6_bitCount_0f7a4_0 rfl (lv_at hl 0 rfl) ?_
  refine lv_iload_n hx hb dJ6_bitCount_0f7a4_1 rfl (lv_at hl 0 rfl) ?_
  refine lv_iconst (v := 1) hx hb dJ6_bitCount_0f7a4_2 (by decide) ?_
  refine lv_iushr (v := 1) hx hb dJ6_bitCount_0f7a4_3 (by decide) ?_
  refine lv_ldcw (v := 1431655765) hx hb hown (hts (.constant RJ6 265 1431655765) (by decide +kernel)) dJ6_bitCount_0f7a4_4 ?_
  refine lv_iand hx hb dJ6_bitCount_0f7a4_7 ?_
  refine lv_topi (fun x_1 ex_1 => ?_)
  obtain rfl : x_1 = 1 := ex_1.trans (by first | rfl | decide)
  refine lv_isub hx hb dJ6_bitCount_0f7a4_8 ?_
  refine lv_topi (fun x_2 ex_2 => ?_)
  obtain rfl : x_2 = 1 := ex_2.trans (by first | rfl | decide)
  refine lv_istore_n (lv' := [(0, .int 1)]) hx hb dJ6_bitCount_0f7a4_9 rfl hl (by decide) rfl (fun ls hl => ?_)
  refine lv_iload_n hx hb dJ6_bitCount_0f7a4_10 rfl (lv_at hl 0 rfl) ?_
  refine lv_ldcw (v := 858993459) hx hb hown (hts (.constant RJ6 266 858993459) (by decide +kernel)) dJ6_bitCount_0f7a4_11 ?_
  refine lv_iand hx hb dJ6_bitCount_0f7a4_14 ?_
  refine lv_topi (fun x_3 ex_3 => ?_)
  obtain rfl : x_3 = 1 := ex_3.trans (by first | rfl | decide)
  refine lv_iload_n hx hb dJ6_bitCount_0f7a4_15 rfl (lv_at hl 0 rfl) ?_
  refine lv_iconst (v := 2) hx hb dJ6_bitCount_0f7a4_16 (by decide) ?_
  refine lv_iushr (v := 0) hx hb dJ6_bitCount_0f7a4_17 (by decide) ?_
  refine lv_ldcw (v := 858993459) hx hb hown (hts (.constant RJ6 266 858993459) (by decide +kernel)) dJ6_bitCount_0f7a4_18 ?_
  refine lv_iand hx hb dJ6_bitCount_0f7a4_21 ?_
  refine lv_topi (fun x_4 ex_4 => ?_)
  obtain rfl : x_4 = 0 := ex_4.trans (by first | rfl | decide)
  refine lv_iadd hx hb dJ6_bitCount_0f7a4_22 ?_
  refine lv_topi (fun x_5 ex_5 => ?_)
  obtain rfl : x_5 = 1 := ex_5.trans (by first | rfl | decide)
  refine lv_istore_n (lv' := [(0, .int 1)]) hx hb dJ6_bitCount_0f7a4_23 rfl hl (by decide) rfl (fun ls hl => ?_)
  refine lv_iload_n hx hb dJ6_bitCount_0f7a4_24 rfl (lv_at hl 0 rfl) ?_
  refine lv_iload_n hx hb dJ6_bitCount_0f7a4_25 rfl (lv_at hl 0 rfl) ?_
  refine lv_iconst (v := 4) hx hb dJ6_bitCount_0f7a4_26 (by decide) ?_
  refine lv_iushr (v := 0) hx hb dJ6_bitCount_0f7a4_27 (by decide) ?_
  refine lv_iadd hx hb dJ6_bitCount_0f7a4_28 ?_
  refine lv_topi (fun x_6 ex_6 => ?_)
  obtain rfl : x_6 = 1 := ex_6.trans (by first | rfl | decide)
  refine lv_ldcw (v := 252645135) hx hb hown (hts (.constant RJ6 267 252645135) (by decide +kernel)) dJ6_bitCount_0f7a4_29 ?_
  refine lv_iand hx hb dJ6_bitCount_0f7a4_32 ?_
  refine lv_topi (fun x_7 ex_7 => ?_)
  obtain rfl : x_7 = 1 := ex_7.trans (by first | rfl | decide)
  refine lv_istore_n (lv' := [(0, .int 1)]) hx hb dJ6_bitCount_0f7a4_33 rfl hl (by decide) rfl (fun ls hl => ?_)
  refine lv_iload_n hx hb dJ6_bitCount_0f7a4_34 rfl (lv_at hl 0 rfl) ?_
  refine lv_iload_n hx hb dJ6_bitCount_0f7a4_35 rfl (lv_at hl 0 rfl) ?_
  refine lv_bipush (v := 8) hx hb dJ6_bitCount_0f7a4_36 (by decide) ?_
  refine lv_iushr (v := 0) hx hb dJ6_bitCount_0f7a4_38 (by decide) ?_
  refine lv_iadd hx hb dJ6_bitCount_0f7a4_39 ?_
  refine lv_topi (fun x_8 ex_8 => ?_)
  obtain rfl : x_8 = 1 := ex_8.trans (by first | rfl | decide)
  refine lv_istore_n (lv' := [(0, .int 1)]) hx hb dJ6_bitCount_0f7a4_40 rfl hl (by decide) rfl (fun ls hl => ?_)
  refine lv_iload_n hx hb dJ6_bitCount_0f7a4_41 rfl (lv_at hl 0 rfl) ?_
  refine lv_iload_n hx hb dJ6_bitCount_0f7a4_42 rfl (lv_at hl 0 rfl) ?_
  refine lv_bipush (v := 16) hx hb dJ6_bitCount_0f7a4_43 (by decide) ?_
  refine lv_iushr (v := 0) hx hb dJ6_bitCount_0f7a4_45 (by decide) ?_
  refine lv_iadd hx hb dJ6_bitCount_0f7a4_46 ?_
  refine lv_topi (fun x_9 ex_9 => ?_)
  obtain rfl : x_9 = 1 := ex_9.trans (by first | rfl | decide)
  refine lv_istore_n (lv' := [(0, .int 1)]) hx hb dJ6_bitCount_0f7a4_47 rfl hl (by decide) rfl (fun ls hl => ?_)
  refine lv_iload_n hx hb dJ6_bitCount_0f7a4_48 rfl (lv_at hl 0 rfl) ?_
  refine lv_bipush (v := 63) hx hb dJ6_bitCount_0f7a4_49 (by decide) ?_
  refine lv_iand hx hb dJ6_bitCount_0f7a4_51 ?_
  refine lv_topi (fun x_10 ex_10 => ?_)
  obtain rfl : x_10 = 1 := ex_10.trans (by first | rfl | decide)
  refine W.widen (k := 0) (n := 0) (Nat.le_of_ble_eq_true rfl) (Nat.le_of_ble_eq_true rfl) ?_
  exact W.iret (v := 1) hx hb hr (fun t ht hW => ⟨⟨1, (), rfl, rfl, trivial⟩, hS.F ht⟩) hS.2.2 dJ6_bitCount_0f7a4_52
set_option maxHeartbeats 4000000 in
set_option maxRecDepth 100000 in
theorem c_J6_bitCount_0f7a4_3 (l : Launch) (dC : Nat → ClassId) (dI : Nat → Nat → Nat) (cB cI cJ : ClassId) (sz : Nat)  : Met l yJ6_bitCount_0f7a4 wsJ6_bitCount_0f7a4 ({ frames := 1, cells := 0, slots := 0, locals := 24 }) (va_Pc [.int 3] (fun U => U.heap.size = sz ∧ va_P (dC, dI) vwCl [] U.heap ∧ va_K (dC, dI) vwCl [(cB, .byte), (cI, .int), (cJ, .long)] U ∧ va_D (fun _ => True) [])) (va_Qi (fun (r : Int32) (_ : Unit) => r = 2) (fun _ _ => True) (va_A [] sz)) 0 0 (va_A [] sz) := by
  refine Met.ofW (cc := cJ6_bitCount_0f7a4) (maxL := 1) (ret := (some .int)) (by decide) rfl ?_
  intro p e s m args below meth c s₁ B hml hv
  obtain ⟨rfl, hsz, hP, hK, hD0⟩ := hv
  have hx := B.exec
  have hb := B.bytes
  have hr := B.returns
  have hts := atoms_spec (ws := wsJ6_bitCount_0f7a4) B.pre
  have hown : s.vm.findClass RJ6 = some m.cls := findClass_of_methodNamed B.named
  have hlocks := B.notSynchronized
  subst hsz
  have hD := hD0.self (sz := s.heap.size)
  generalize hAe : va_A [] s.heap.size = A at hD ⊢
  have hA : ∀ q : Nat, s.heap.size ≤ q → A q := fun q h => by rw [← hAe]; exact Or.inr h
  have hS : va_S A s.heap s.heap [] := va_S.rf
  have hP : va_P (dC, dI) vwCl [] s.heap := hP
  have hl := lv_entry ([.int 3]) (n := 1) (Nat.le_of_ble_eq_true rfl)
  rw [lg_entry_eq]
  generalize (lg_sl ([.int 3]) ++ List.replicate (1 - (lg_sl ([.int 3])).length) Slot.unset).toArray = ls at hl ⊢
  have hl : lv_has ls 1 [(0, .int 3)] := hl
  refine lv_iload_n hx hb dJ6_bitCount_0f7a4_0 rfl (lv_at hl 0 rfl) ?_
  refine lv_iload_n hx hb dJ6_bitCount_0f7a4_1 rfl (lv_at hl 0 rfl) ?_
  refine lv_iconst (v := 1) hx hb dJ6_bitCount_0f7a4_2 (by decide) ?_
  refine lv_iushr (v := 1) hx hb dJ6_bitCount_0f7a4_3 (by decide) ?_
  refine lv_ldcw (v := 1431655765) hx hb hown (hts (.constant RJ6 265 1431655765) (by decide +kernel)) dJ6_bitCount_0f7a4_4 ?_
  refine lv_iand hx hb dJ6_bitCount_0f7a4_7 ?_
  refine lv_topi (fun x_1 ex_1 => ?_)
  obtain rfl : x_1 = 1 := ex_1.trans (by first | rfl | decide)
  refine lv_isub hx hb dJ6_bitCount_0f7a4_8 ?_
  refine lv_topi (fun x_2 ex_2 => ?_)
  obtain rfl : x_2 = 2 := ex_2.trans (by first | rfl | decide)
  refine lv_istore_n (lv' := [(0, .int 2)]) hx hb dJ6_bitCount_0f7a4_9 rfl hl (by decide) rfl (fun ls hl => ?_)
  refine lv_iload_n hx hb dJ6_bitCount_0f7a4_10 rfl (lv_at hl 0 rfl) ?_
  refine lv_ldcw (v := 858993459) hx hb hown (hts (.constant RJ6 266 858993459) (by decide +kernel)) dJ6_bitCount_0f7a4_11 ?_
  refine lv_iand hx hb dJ6_bitCount_0f7a4_14 ?_
  refine lv_topi (fun x_3 ex_3 => ?_)
  obtain rfl : x_3 = 2 := ex_3.trans (by first | rfl | decide)
  refine lv_iload_n hx hb dJ6_bitCount_0f7a4_15 rfl (lv_at hl 0 rfl) ?_
  refine lv_iconst (v := 2) hx hb dJ6_bitCount_0f7a4_16 (by decide) ?_
  refine lv_iushr (v := 0) hx hb dJ6_bitCount_0f7a4_17 (by decide) ?_
  refine lv_ldcw (v := 858993459) hx hb hown (hts (.constant RJ6 266 858993459) (by decide +kernel)) dJ6_bitCount_0f7a4_18 ?_
  refine lv_iand hx hb dJ6_bitCount_0f7a4_21 ?_
  refine lv_topi (fun x_4 ex_4 => ?_)
  obtain rfl : x_4 = 0 := ex_4.trans (by first | rfl | decide)
  refine lv_iadd hx hb dJ6_bitCount_0f7a4_22 ?_
  refine lv_topi (fun x_5 ex_5 => ?_)
  obtain rfl : x_5 = 2 := ex_5.trans (by first | rfl | decide)
  refine lv_istore_n (lv' := [(0, .int 2)]) hx hb dJ6_bitCount_0f7a4_23 rfl hl (by decide) rfl (fun ls hl => ?_)
  refine lv_iload_n hx hb dJ6_bitCount_0f7a4_24 rfl (lv_at hl 0 rfl) ?_
  refine lv_iload_n hx hb dJ6_bitCount_0f7a4_25 rfl (lv_at hl 0 rfl) ?_
  refine lv_iconst (v := 4) hx hb dJ6_bitCount_0f7a4_26 (by decide) ?_
  refine lv_iushr (v := 0) hx hb dJ6_bitCount_0f7a4_27 (by decide) ?_
  refine lv_iadd hx hb dJ6_bitCount_0f7a4_28 ?_
  refine lv_topi (fun x_6 ex_6 => ?_)
  obtain rfl : x_6 = 2 := ex_6.trans (by first | rfl | decide)
  refine lv_ldcw (v := 252645135) hx hb hown (hts (.constant RJ6 267 252645135) (by decide +kernel)) dJ6_bitCount_0f7a4_29 ?_
  refine lv_iand hx hb dJ6_bitCount_0f7a4_32 ?_
  refine lv_topi (fun x_7 ex_7 => ?_)
  obtain rfl : x_7 = 2 := ex_7.trans (by first | rfl | decide)
  refine lv_istore_n (lv' := [(0, .int 2)]) hx hb dJ6_bitCount_0f7a4_33 rfl hl (by decide) rfl (fun ls hl => ?_)
  refine lv_iload_n hx hb dJ6_bitCount_0f7a4_34 rfl (lv_at hl 0 rfl) ?_
  refine lv_iload_n hx hb dJ6_bitCount_0f7a4_35 rfl (lv_at hl 0 rfl) ?_
  refine lv_bipush (v := 8) hx hb dJ6_bitCount_0f7a4_36 (by decide) ?_
  refine lv_iushr (v := 0) hx hb dJ6_bitCount_0f7a4_38 (by decide) ?_
  refine lv_iadd hx hb dJ6_bitCount_0f7a4_39 ?_
  refine lv_topi (fun x_8 ex_8 => ?_)
  obtain rfl : x_8 = 2 := ex_8.trans (by first | rfl | decide)
  refine lv_istore_n (lv' := [(0, .int 2)]) hx hb dJ6_bitCount_0f7a4_40 rfl hl (by decide) rfl (fun ls hl => ?_)
  refine lv_iload_n hx hb dJ6_bitCount_0f7a4_41 rfl (lv_at hl 0 rfl) ?_
  refine lv_iload_n hx hb dJ6_bitCount_0f7a4_42 rfl (lv_at hl 0 rfl) ?_
  refine lv_bipush (v := 16) hx hb dJ6_bitCount_0f7a4_43 (by decide) ?_
  refine lv_iushr (v := 0) hx hb dJ6_bitCount_0f7a4_45 (by decide) ?_
  refine lv_iadd hx hb dJ6_bitCount_0f7a4_46 ?_
  refine lv_topi (fun x_9 ex_9 => ?_)
  obtain rfl : x_9 = 2 := ex_9.trans (by first | rfl | decide)
  refine lv_istore_n (lv' := [(0, .int 2)]) hx hb dJ6_bitCount_0f7a4_47 rfl hl (by decide) rfl (fun ls hl => ?_)
  refine lv_iload_n hx hb dJ6_bitCount_0f7a4_48 rfl (lv_at hl 0 rfl) ?_
  refine lv_bipush (v := 63) hx hb dJ6_bitCount_0f7a4_49 (by decide) ?_
  refine lv_iand hx hb dJ6_bitCount_0f7a4_51 ?_
  refine lv_topi (fun x_10 ex_10 => ?_)
  obtain rfl : x_10 = 2 := ex_10.trans (by first | rfl | decide)
  refine W.widen (k := 0) (n := 0) (Nat.le_of_ble_eq_true rfl) (Nat.le_of_ble_eq_true rfl) ?_
  exact W.iret (v := 2) hx hb hr (fun t ht hW => ⟨⟨2, (), rfl, rfl, trivial⟩, hS.F ht⟩) hS.2.2 dJ6_bitCount_0f7a4_52
set_option maxHeartbeats 4000000 in
set_option maxRecDepth 100000 in
theorem c_J6_bitCount_0f7a4_4 (l : Launch) (dC : Nat → ClassId) (dI : Nat → Nat → Nat) (cB cI cJ : ClassId) (sz : Nat)  : Met l yJ6_bitCount_0f7a4 wsJ6_bitCount_0f7a4 ({ frames := 1, cells := 0, slots := 0, locals := 24 }) (va_Pc [.int 4] (fun U => U.heap.size = sz ∧ va_P (dC, dI) vwCl [] U.heap ∧ va_K (dC, dI) vwCl [(cB, .byte), (cI, .int), (cJ, .long)] U ∧ va_D (fun _ => True) [])) (va_Qi (fun (r : Int32) (_ : Unit) => r = 1) (fun _ _ => True) (va_A [] sz)) 0 0 (va_A [] sz) := by
  refine Met.ofW (cc := cJ6_bitCount_0f7a4) (maxL := 1) (ret := (some .int)) (by decide) rfl ?_
  intro p e s m args below meth c s₁ B hml hv
  obtain ⟨rfl, hsz, hP, hK, hD0⟩ := hv
  have hx := B.exec
  have hb := B.bytes
  have hr := B.returns
  have hts := atoms_spec (ws := wsJ6_bitCount_0f7a4) B.pre
  have hown : s.vm.findClass RJ6 = some m.cls := findClass_of_methodNamed B.named
  have hlocks := B.notSynchronized
  subst hsz
  have hD := hD0.self (sz := s.heap.size)
  generalize hAe : va_A [] s.heap.size = A at hD ⊢
  have hA : ∀ q : Nat, s.heap.size ≤ q → A q := fun q h => by rw [← hAe]; exact Or.inr h
  have hS : va_S A s.heap s.heap [] := va_S.rf
  have hP : va_P (dC, dI) vwCl [] s.heap := hP
  have hl := lv_entry ([.int 4]) (n := 1) (Nat.le_of_ble_eq_true rfl)
  rw [lg_entry_eq]
  generalize (lg_sl ([.int 4]) ++ List.replicate (1 - (lg_sl ([.int 4])).length) Slot.unset).toArray = ls at hl ⊢
  have hl : lv_has ls 1 [(0, .int 4)] := hl
  refine lv_iload_n hx hb dJ6_bitCount_0f7a4_0 rfl (lv_at hl 0 rfl) ?_
  refine lv_iload_n hx hb dJ6_bitCount_0f7a4_1 rfl (lv_at hl 0 rfl) ?_
  refine lv_iconst (v := 1) hx hb dJ6_bitCount_0f7a4_2 (by decide) ?_
  refine lv_iushr (v := 2) hx hb dJ6_bitCount_0f7a4_3 (by decide) ?_
  refine lv_ldcw (v := 1431655765) hx hb hown (hts (.constant RJ6 265 1431655765) (by decide +kernel)) dJ6_bitCount_0f7a4_4 ?_
  refine lv_iand hx hb dJ6_bitCount_0f7a4_7 ?_
  refine lv_topi (fun x_1 ex_1 => ?_)
  obtain rfl : x_1 = 0 := ex_1.trans (by first | rfl | decide)
  refine lv_isub hx hb dJ6_bitCount_0f7a4_8 ?_
  refine lv_topi (fun x_2 ex_2 => ?_)
  obtain rfl : x_2 = 4 := ex_2.trans (by first | rfl | decide)
  refine lv_istore_n (lv' := [(0, .int 4)]) hx hb dJ6_bitCount_0f7a4_9 rfl hl (by decide) rfl (fun ls hl => ?_)
  refine lv_iload_n hx hb dJ6_bitCount_0f7a4_10 rfl (lv_at hl 0 rfl) ?_
  refine lv_ldcw (v := 858993459) hx hb hown (hts (.constant RJ6 266 858993459) (by decide +kernel)) dJ6_bitCount_0f7a4_11 ?_
  refine lv_iand hx hb dJ6_bitCount_0f7a4_14 ?_
  refine lv_topi (fun x_3 ex_3 => ?_)
  obtain rfl : x_3 = 0 := ex_3.trans (by first | rfl | decide)
  refine lv_iload_n hx hb dJ6_bitCount_0f7a4_15 rfl (lv_at hl 0 rfl) ?_
  refine lv_iconst (v := 2) hx hb dJ6_bitCount_0f7a4_16 (by decide) ?_
  refine lv_iushr (v := 1) hx hb dJ6_bitCount_0f7a4_17 (by decide) ?_
  refine lv_ldcw (v := 858993459) hx hb hown (hts (.constant RJ6 266 858993459) (by decide +kernel)) dJ6_bitCount_0f7a4_18 ?_
  refine lv_iand hx hb dJ6_bitCount_0f7a4_21 ?_
  refine lv_topi (fun x_4 ex_4 => ?_)
  obtain rfl : x_4 = 1 := ex_4.trans (by first | rfl | decide)
  refine lv_iadd hx hb dJ6_bitCount_0f7a4_22 ?_
  refine lv_topi (fun x_5 ex_5 => ?_)
  obtain rfl : x_5 = 1 := ex_5.trans (by first | rfl | decide)
  refine lv_istore_n (lv' := [(0, .int 1)]) hx hb dJ6_bitCount_0f7a4_23 rfl hl (by decide) rfl (fun ls hl => ?_)
  refine lv_iload_n hx hb dJ6_bitCount_0f7a4_24 rfl (lv_at hl 0 rfl) ?_
  refine lv_iload_n hx hb dJ6_bitCount_0f7a4_25 rfl (lv_at hl 0 rfl) ?_
  refine lv_iconst (v := 4) hx hb dJ6_bitCount_0f7a4_26 (by decide) ?_
  refine lv_iushr (v := 0) hx hb dJ6_bitCount_0f7a4_27 (by decide) ?_
  refine lv_iadd hx hb dJ6_bitCount_0f7a4_28 ?_
  refine lv_topi (fun x_6 ex_6 => ?_)
  obtain rfl : x_6 = 1 := ex_6.trans (by first | rfl | decide)
  refine lv_ldcw (v := 252645135) hx hb hown (hts (.constant RJ6 267 252645135) (by decide +kernel)) dJ6_bitCount_0f7a4_29 ?_
  refine lv_iand hx hb dJ6_bitCount_0f7a4_32 ?_
  refine lv_topi (fun x_7 ex_7 => ?_)
  obtain rfl : x_7 = 1 := ex_7.trans (by first | rfl | decide)
  refine lv_istore_n (lv' := [(0, .int 1)]) hx hb dJ6_bitCount_0f7a4_33 rfl hl (by decide) rfl (fun ls hl => ?_)
  refine lv_iload_n hx hb dJ6_bitCount_0f7a4_34 rfl (lv_at hl 0 rfl) ?_
  refine lv_iload_n hx hb dJ6_bitCount_0f7a4_35 rfl (lv_at hl 0 rfl) ?_
  refine lv_bipush (v := 8) hx hb dJ6_bitCount_0f7a4_36 (by decide) ?_
  refine lv_iushr (v := 0) hx hb dJ6_bitCount_0f7a4_38 (by decide) ?_
  refine lv_iadd hx hb dJ6_bitCount_0f7a4_39 ?_
  refine lv_topi (fun x_8 ex_8 => ?_)
  obtain rfl : x_8 = 1 := ex_8.trans (by first | rfl | decide)
  refine lv_istore_n (lv' := [(0, .int 1)]) hx hb dJ6_bitCount_0f7a4_40 rfl hl (by decide) rfl (fun ls hl => ?_)
  refine lv_iload_n hx hb dJ6_bitCount_0f7a4_41 rfl (lv_at hl 0 rfl) ?_
  refine lv_iload_n hx hb dJ6_bitCount_0f7a4_42 rfl (lv_at hl 0 rfl) ?_
  refine lv_bipush (v := 16) hx hb dJ6_bitCount_0f7a4_43 (by decide) ?_
  refine lv_iushr (v := 0) hx hb dJ6_bitCount_0f7a4_45 (by decide) ?_
  refine lv_iadd hx hb dJ6_bitCount_0f7a4_46 ?_
  refine lv_topi (fun x_9 ex_9 => ?_)
  obtain rfl : x_9 = 1 := ex_9.trans (by first | rfl | decide)
  refine lv_istore_n (lv' := [(0, .int 1)]) hx hb dJ6_bitCount_0f7a4_47 rfl hl (by decide) rfl (fun ls hl => ?_)
  refine lv_iload_n hx hb dJ6_bitCount_0f7a4_48 rfl (lv_at hl 0 rfl) ?_
  refine lv_bipush (v := 63) hx hb dJ6_bitCount_0f7a4_49 (by decide) ?_
  refine lv_iand hx hb dJ6_bitCount_0f7a4_51 ?_
  refine lv_topi (fun x_10 ex_10 => ?_)
  obtain rfl : x_10 = 1 := ex_10.trans (by first | rfl | decide)
  refine W.widen (k := 0) (n := 0) (Nat.le_of_ble_eq_true rfl) (Nat.le_of_ble_eq_true rfl) ?_
  exact W.iret (v := 1) hx hb hr (fun t ht hW => ⟨⟨1, (), rfl, rfl, trivial⟩, hS.F ht⟩) hS.2.2 dJ6_bitCount_0f7a4_52
set_option maxHeartbeats 4000000 in
set_option maxRecDepth 100000 in
theorem c_J6_bitCount_0f7a4_5 (l : Launch) (dC : Nat → ClassId) (dI : Nat → Nat → Nat) (cB cI cJ : ClassId) (sz : Nat)  : Met l yJ6_bitCount_0f7a4 wsJ6_bitCount_0f7a4 ({ frames := 1, cells := 0, slots := 0, locals := 24 }) (va_Pc [.int 5] (fun U => U.heap.size = sz ∧ va_P (dC, dI) vwCl [] U.heap ∧ va_K (dC, dI) vwCl [(cB, .byte), (cI, .int), (cJ, .long)] U ∧ va_D (fun _ => True) [])) (va_Qi (fun (r : Int32) (_ : Unit) => r = 2) (fun _ _ => True) (va_A [] sz)) 0 0 (va_A [] sz) := by
  refine Met.ofW (cc := cJ6_bitCount_0f7a4) (maxL := 1) (ret := (some .int)) (by decide) rfl ?_
  intro p e s m args below meth c s₁ B hml hv
  obtain ⟨rfl, hsz, hP, hK, hD0⟩ := hv
  have hx := B.exec
  have hb := B.bytes
  have hr := B.returns
  have hts := atoms_spec (ws := wsJ6_bitCount_0f7a4) B.pre
  have hown : s.vm.findClass RJ6 = some m.cls := findClass_of_methodNamed B.named
  have hlocks := B.notSynchronized
  subst hsz
  have hD := hD0.self (sz := s.heap.size)
  generalize hAe : va_A [] s.heap.size = A at hD ⊢
  have hA : ∀ q : Nat, s.heap.size ≤ q → A q := fun q h => by rw [← hAe]; exact Or.inr h
  have hS : va_S A s.heap s.heap [] := va_S.rf
  have hP : va_P (dC, dI) vwCl [] s.heap := hP
  have hl := lv_entry ([.int 5]) (n := 1) (Nat.le_of_ble_eq_true rfl)
  rw [lg_entry_eq]
  generalize (lg_sl ([.int 5]) ++ List.replicate (1 - (lg_sl ([.int 5])).length) Slot.unset).toArray = ls at hl ⊢
  have hl : lv_has ls 1 [(0, .int 5)] := hl
  refine lv_iload_n hx hb dJ6_bitCount_0f7a4_0 rfl (lv_at hl 0 rfl) ?_
  refine lv_iload_n hx hb dJ6_bitCount_0f7a4_1 rfl (lv_at hl 0 rfl) ?_
  refine lv_iconst (v := 1) hx hb dJ6_bitCount_0f7a4_2 (by decide) ?_
  refine lv_iushr (v := 2) hx hb dJ6_bitCount_0f7a4_3 (by decide) ?_
  refine lv_ldcw (v := 1431655765) hx hb hown (hts (.constant RJ6 265 1431655765) (by decide +kernel)) dJ6_bitCount_0f7a4_4 ?_
  refine lv_iand hx hb dJ6_bitCount_0f7a4_7 ?_
  refine lv_topi (fun x_1 ex_1 => ?_)
  obtain rfl : x_1 = 0 := ex_1.trans (by first | rfl | decide)
  refine lv_isub hx hb dJ6_bitCount_0f7a4_8 ?_
  refine lv_topi (fun x_2 ex_2 => ?_)
  obtain rfl : x_2 = 5 := ex_2.trans (by first | rfl | decide)
  refine lv_istore_n (lv' := [(0, .int 5)]) hx hb dJ6_bitCount_0f7a4_9 rfl hl (by decide) rfl (fun ls hl => ?_)
  refine lv_iload_n hx hb dJ6_bitCount_0f7a4_10 rfl (lv_at hl 0 rfl) ?_
  refine lv_ldcw (v := 858993459) hx hb hown (hts (.constant RJ6 266 858993459) (by decide +kernel)) dJ6_bitCount_0f7a4_11 ?_
  refine lv_iand hx hb dJ6_bitCount_0f7a4_14 ?_
  refine lv_topi (fun x_3 ex_3 => ?_)
  obtain rfl : x_3 = 1 := ex_3.trans (by first | rfl | decide)
  refine lv_iload_n hx hb dJ6_bitCount_0f7a4_15 rfl (lv_at hl 0 rfl) ?_
  refine lv_iconst (v := 2) hx hb dJ6_bitCount_0f7a4_16 (by decide) ?_
  refine lv_iushr (v := 1) hx hb dJ6_bitCount_0f7a4_17 (by decide) ?_
  refine lv_ldcw (v := 858993459) hx hb hown (hts (.constant RJ6 266 858993459) (by decide +kernel)) dJ6_bitCount_0f7a4_18 ?_
  refine lv_iand hx hb dJ6_bitCount_0f7a4_21 ?_
  refine lv_topi (fun x_4 ex_4 => ?_)
  obtain rfl : x_4 = 1 := ex_4.trans (by first | rfl | decide)
  refine lv_iadd hx hb dJ6_bitCount_0f7a4_22 ?_
  refine lv_topi (fun x_5 ex_5 => ?_)
  obtain rfl : x_5 = 2 := ex_5.trans (by first | rfl | decide)
  refine lv_istore_n (lv' := [(0, .int 2)]) hx hb dJ6_bitCount_0f7a4_23 rfl hl (by decide) rfl (fun ls hl => ?_)
  refine lv_iload_n hx hb dJ6_bitCount_0f7a4_24 rfl (lv_at hl 0 rfl) ?_
  refine lv_iload_n hx hb dJ6_bitCount_0f7a4_25 rfl (lv_at hl 0 rfl) ?_
  refine lv_iconst (v := 4) hx hb dJ6_bitCount_0f7a4_26 (by decide) ?_
  refine lv_iushr (v := 0) hx hb dJ6_bitCount_0f7a4_27 (by decide) ?_
  refine lv_iadd hx hb dJ6_bitCount_0f7a4_28 ?_
  refine lv_topi (fun x_6 ex_6 => ?_)
  obtain rfl : x_6 = 2 := ex_6.trans (by first | rfl | decide)
  refine lv_ldcw (v := 252645135) hx hb hown (hts (.constant RJ6 267 252645135) (by decide +kernel)) dJ6_bitCount_0f7a4_29 ?_
  refine lv_iand hx hb dJ6_bitCount_0f7a4_32 ?_
  refine lv_topi (fun x_7 ex_7 => ?_)
  obtain rfl : x_7 = 2 := ex_7.trans (by first | rfl | decide)
  refine lv_istore_n (lv' := [(0, .int 2)]) hx hb dJ6_bitCount_0f7a4_33 rfl hl (by decide) rfl (fun ls hl => ?_)
  refine lv_iload_n hx hb dJ6_bitCount_0f7a4_34 rfl (lv_at hl 0 rfl) ?_
  refine lv_iload_n hx hb dJ6_bitCount_0f7a4_35 rfl (lv_at hl 0 rfl) ?_
  refine lv_bipush (v := 8) hx hb dJ6_bitCount_0f7a4_36 (by decide) ?_
  refine lv_iushr (v := 0) hx hb dJ6_bitCount_0f7a4_38 (by decide) ?_
  refine lv_iadd hx hb dJ6_bitCount_0f7a4_39 ?_
  refine lv_topi (fun x_8 ex_8 => ?_)
  obtain rfl : x_8 = 2 := ex_8.trans (by first | rfl | decide)
  refine lv_istore_n (lv' := [(0, .int 2)]) hx hb dJ6_bitCount_0f7a4_40 rfl hl (by decide) rfl (fun ls hl => ?_)
  refine lv_iload_n hx hb dJ6_bitCount_0f7a4_41 rfl (lv_at hl 0 rfl) ?_
  refine lv_iload_n hx hb dJ6_bitCount_0f7a4_42 rfl (lv_at hl 0 rfl) ?_
  refine lv_bipush (v := 16) hx hb dJ6_bitCount_0f7a4_43 (by decide) ?_
  refine lv_iushr (v := 0) hx hb dJ6_bitCount_0f7a4_45 (by decide) ?_
  refine lv_iadd hx hb dJ6_bitCount_0f7a4_46 ?_
  refine lv_topi (fun x_9 ex_9 => ?_)
  obtain rfl : x_9 = 2 := ex_9.trans (by first | rfl | decide)
  refine lv_istore_n (lv' := [(0, .int 2)]) hx hb dJ6_bitCount_0f7a4_47 rfl hl (by decide) rfl (fun ls hl => ?_)
  refine lv_iload_n hx hb dJ6_bitCount_0f7a4_48 rfl (lv_at hl 0 rfl) ?_
  refine lv_bipush (v := 63) hx hb dJ6_bitCount_0f7a4_49 (by decide) ?_
  refine lv_iand hx hb dJ6_bitCount_0f7a4_51 ?_
  refine lv_topi (fun x_10 ex_10 => ?_)
  obtain rfl : x_10 = 2 := ex_10.trans (by first | rfl | decide)
  refine W.widen (k := 0) (n := 0) (Nat.le_of_ble_eq_true rfl) (Nat.le_of_ble_eq_true rfl) ?_
  exact W.iret (v := 2) hx hb hr (fun t ht hW => ⟨⟨2, (), rfl, rfl, trivial⟩, hS.F ht⟩) hS.2.2 dJ6_bitCount_0f7a4_52
set_option maxHeartbeats 4000000 in
set_option maxRecDepth 100000 in
theorem c_J6_bitCount_0f7a4_6 (l : Launch) (dC : Nat → ClassId) (dI : Nat → Nat → Nat) (cB cI cJ : ClassId) (sz : Nat)  : Met l yJ6_bitCount_0f7a4 wsJ6_bitCount_0f7a4 ({ frames := 1, cells := 0, slots := 0, locals := 24 }) (va_Pc [.int 6] (fun U => U.heap.size = sz ∧ va_P (dC, dI) vwCl [] U.heap ∧ va_K (dC, dI) vwCl [(cB, .byte), (cI, .int), (cJ, .long)] U ∧ va_D (fun _ => True) [])) (va_Qi (fun (r : Int32) (_ : Unit) => r = 2) (fun _ _ => True) (va_A [] sz)) 0 0 (va_A [] sz) := by
  refine Met.ofW (cc := cJ6_bitCount_0f7a4) (maxL := 1) (ret := (some .int)) (by decide) rfl ?_
  intro p e s m args below meth c s₁ B hml hv
  obtain ⟨rfl, hsz, hP, hK, hD0⟩ := hv
  have hx := B.exec
  have hb := B.bytes
  have hr := B.returns
  have hts := atoms_spec (ws := wsJ6_bitCount_0f7a4) B.pre
  have hown : s.vm.findClass RJ6 = some m.cls := findClass_of_methodNamed B.named
  have hlocks := B.notSynchronized
  subst hsz
  have hD := hD0.self (sz := s.heap.size)
  generalize hAe : va_A [] s.heap.size = A at hD ⊢
  have hA : ∀ q : Nat, s.heap.size ≤ q → A q := fun q h => by rw [← hAe]; exact Or.inr h
  have hS : va_S A s.heap s.heap [] := va_S.rf
  have hP : va_P (dC, dI) vwCl [] s.heap := hP
  have hl := lv_entry ([.int 6]) (n := 1) (Nat.le_of_ble_eq_true rfl)
  rw [lg_entry_eq]
  generalize (lg_sl ([.int 6]) ++ List.replicate (1 - (lg_sl ([.int 6])).length) Slot.unset).toArray = ls at hl ⊢
  have hl : lv_has ls 1 [(0, .int 6)] := hl
  refine lv_iload_n hx hb dJ6_bitCount_0f7a4_0 rfl (lv_at hl 0 rfl) ?_
  refine lv_iload_n hx hb dJ6_bitCount_0f7a4_1 rfl (lv_at hl 0 rfl) ?_
  refine lv_iconst (v := 1) hx hb dJ6_bitCount_0f7a4_2 (by decide) ?_
  refine lv_iushr (v := 3) hx hb dJ6_bitCount_0f7a4_3 (by decide) ?_
  refine lv_ldcw (v := 1431655765) hx hb hown (hts (.constant RJ6 265 1431655765) (by decide +kernel)) dJ6_bitCount_0f7a4_4 ?_
  refine lv_iand hx hb dJ6_bitCount_0f7a4_7 ?_
  refine lv_topi (fun x_1 ex_1 => ?_)
  obtain rfl : x_1 = 1 := ex_1.trans (by first | rfl | decide)
  refine lv_isub hx hb dJ6_bitCount_0f7a4_8 ?_
  refine lv_topi (fun x_2 ex_2 => ?_)
  obtain rfl : x_2 = 5 := ex_2.trans (by first | rfl | decide)
  refine lv_istore_n (lv' := [(0, .int 5)]) hx hb dJ6_bitCount_0f7a4_9 rfl hl (by decide) rfl (fun ls hl => ?_)
  refine lv_iload_n hx hb dJ6_bitCount_0f7a4_10 rfl (lv_at hl 0 rfl) ?_
  refine lv_ldcw (v := 858993459) hx hb hown (hts (.constant RJ6 266 858993459) (by decide +kernel)) dJ6_bitCount_0f7a4_11 ?_
  refine lv_iand hx hb dJ6_bitCount_0f7a4_14 ?_
  refine lv_topi (fun x_3 ex_3 => ?_)
  obtain rfl : x_3 = 1 := ex_3.trans (by first | rfl | decide)
  refine lv_iload_n hx hb dJ6_bitCount_0f7a4_15 rfl (lv_at hl 0 rfl) ?_
  refine lv_iconst (v := 2) hx hb dJ6_bitCount_0f7a4_16 (by decide) ?_
  refine lv_iushr (v := 1) hx hb dJ6_bitCount_0f7a4_17 (by decide) ?_
  refine lv_ldcw (v := 858993459) hx hb hown (hts (.constant RJ6 266 858993459) (by decide +kernel)) dJ6_bitCount_0f7a4_18 ?_
  refine lv_iand hx hb dJ6_bitCount_0f7a4_21 ?_
  refine lv_topi (fun x_4 ex_4 => ?_)
  obtain rfl : x_4 = 1 := ex_4.trans (by first | rfl | decide)
  refine lv_iadd hx hb dJ6_bitCount_0f7a4_22 ?_
  refine lv_topi (fun x_5 ex_5 => ?_)
  obtain rfl : x_5 = 2 := ex_5.trans (by first | rfl | decide)
  refine lv_istore_n (lv' := [(0, .int 2)]) hx hb dJ6_bitCount_0f7a4_23 rfl hl (by decide) rfl (fun ls hl => ?_)
  refine lv_iload_n hx hb dJ6_bitCount_0f7a4_24 rfl (lv_at hl 0 rfl) ?_
  refine lv_iload_n hx hb dJ6_bitCount_0f7a4_25 rfl (lv_at hl 0 rfl) ?_
  refine lv_iconst (v := 4) hx hb dJ6_bitCount_0f7a4_26 (by decide) ?_
  refine lv_iushr (v := 0) hx hb dJ6_bitCount_0f7a4_27 (by decide) ?_
  refine lv_iadd hx hb dJ6_bitCount_0f7a4_28 ?_
  refine lv_topi (fun x_6 ex_6 => ?_)
  obtain rfl : x_6 = 2 := ex_6.trans (by first | rfl | decide)
  refine lv_ldcw (v := 252645135) hx hb hown (hts (.constant RJ6 267 252645135) (by decide +kernel)) dJ6_bitCount_0f7a4_29 ?_
  refine lv_iand hx hb dJ6_bitCount_0f7a4_32 ?_
  refine lv_topi (fun x_7 ex_7 => ?_)
  obtain rfl : x_7 = 2 := ex_7.trans (by first | rfl | decide)
  refine lv_istore_n (lv' := [(0, .int 2)]) hx hb dJ6_bitCount_0f7a4_33 rfl hl (by decide) rfl (fun ls hl => ?_)
  refine lv_iload_n hx hb dJ6_bitCount_0f7a4_34 rfl (lv_at hl 0 rfl) ?_
  refine lv_iload_n hx hb dJ6_bitCount_0f7a4_35 rfl (lv_at hl 0 rfl) ?_
  refine lv_bipush (v := 8) hx hb dJ6_bitCount_0f7a4_36 (by decide) ?_
  refine lv_iushr (v := 0) hx hb dJ6_bitCount_0f7a4_38 (by decide) ?_
  refine lv_iadd hx hb dJ6_bitCount_0f7a4_39 ?_
  refine lv_topi (fun x_8 ex_8 => ?_)
  obtain rfl : x_8 = 2 := ex_8.trans (by first | rfl | decide)
  refine lv_istore_n (lv' := [(0, .int 2)]) hx hb dJ6_bitCount_0f7a4_40 rfl hl (by decide) rfl (fun ls hl => ?_)
  refine lv_iload_n hx hb dJ6_bitCount_0f7a4_41 rfl (lv_at hl 0 rfl) ?_
  refine lv_iload_n hx hb dJ6_bitCount_0f7a4_42 rfl (lv_at hl 0 rfl) ?_
  refine lv_bipush (v := 16) hx hb dJ6_bitCount_0f7a4_43 (by decide) ?_
  refine lv_iushr (v := 0) hx hb dJ6_bitCount_0f7a4_45 (by decide) ?_
  refine lv_iadd hx hb dJ6_bitCount_0f7a4_46 ?_
  refine lv_topi (fun x_9 ex_9 => ?_)
  obtain rfl : x_9 = 2 := ex_9.trans (by first | rfl | decide)
  refine lv_istore_n (lv' := [(0, .int 2)]) hx hb dJ6_bitCount_0f7a4_47 rfl hl (by decide) rfl (fun ls hl => ?_)
  refine lv_iload_n hx hb dJ6_bitCount_0f7a4_48 rfl (lv_at hl 0 rfl) ?_
  refine lv_bipush (v := 63) hx hb dJ6_bitCount_0f7a4_49 (by decide) ?_
  refine lv_iand hx hb dJ6_bitCount_0f7a4_51 ?_
  refine lv_topi (fun x_10 ex_10 => ?_)
  obtain rfl : x_10 = 2 := ex_10.trans (by first | rfl | decide)
  refine W.widen (k := 0) (n := 0) (Nat.le_of_ble_eq_true rfl) (Nat.le_of_ble_eq_true rfl) ?_
  exact W.iret (v := 2) hx hb hr (fun t ht hW => ⟨⟨2, (), rfl, rfl, trivial⟩, hS.F ht⟩) hS.2.2 dJ6_bitCount_0f7a4_52
set_option maxHeartbeats 4000000 in
set_option maxRecDepth 100000 in
theorem c_J6_bitCount_0f7a4_7 (l : Launch) (dC : Nat → ClassId) (dI : Nat → Nat → Nat) (cB cI cJ : ClassId) (sz : Nat)  : Met l yJ6_bitCount_0f7a4 wsJ6_bitCount_0f7a4 ({ frames := 1, cells := 0, slots := 0, locals := 24 }) (va_Pc [.int 7] (fun U => U.heap.size = sz ∧ va_P (dC, dI) vwCl [] U.heap ∧ va_K (dC, dI) vwCl [(cB, .byte), (cI, .int), (cJ, .long)] U ∧ va_D (fun _ => True) [])) (va_Qi (fun (r : Int32) (_ : Unit) => r = 3) (fun _ _ => True) (va_A [] sz)) 0 0 (va_A [] sz) := by
  refine Met.ofW (cc := cJ6_bitCount_0f7a4) (maxL := 1) (ret := (some .int)) (by decide) rfl ?_
  intro p e s m args below meth c s₁ B hml hv
  obtain ⟨rfl, hsz, hP, hK, hD0⟩ := hv
  have hx := B.exec
  have hb := B.bytes
  have hr := B.returns
  have hts := atoms_spec (ws := wsJ6_bitCount_0f7a4) B.pre
  have hown : s.vm.findClass RJ6 = some m.cls := findClass_of_methodNamed B.named
  have hlocks := B.notSynchronized
  subst hsz
  have hD := hD0.self (sz := s.heap.size)
  generalize hAe : va_A [] s.heap.size = A at hD ⊢
  have hA : ∀ q : Nat, s.heap.size ≤ q → A q := fun q h => by rw [← hAe]; exact Or.inr h
  have hS : va_S A s.heap s.heap [] := va_S.rf
  have hP : va_P (dC, dI) vwCl [] s.heap := hP
  have hl := lv_entry ([.int 7]) (n := 1) (Nat.le_of_ble_eq_true rfl)
  rw [lg_entry_eq]
  generalize (lg_sl ([.int 7]) ++ List.replicate (1 - (lg_sl ([.int 7])).length) Slot.unset).toArray = ls at hl ⊢
  have hl : lv_has ls 1 [(0, .int 7)] := hl
  refine lv_iload_n hx hb dJ6_bitCount_0f7a4_0 rfl (lv_at hl 0 rfl) ?_
  refine lv_iload_n hx hb dJ6_bitCount_0f7a4_1 rfl (lv_at hl 0 rfl) ?_
  refine lv_iconst (v := 1) hx hb dJ6_bitCount_0f7a4_2 (by decide) ?_
  refine lv_iushr (v := 3) hx hb dJ6_bitCount_0f7a4_3 (by decide) ?_
  refine lv_ldcw (v := 1431655765) hx hb hown (hts (.constant RJ6 265 1431655765) (by decide +kernel)) dJ6_bitCount_0f7a4_4 ?_
  refine lv_iand hx hb dJ6_bitCount_0f7a4_7 ?_
  refine lv_topi (fun x_1 ex_1 => ?_)
  obtain rfl : x_1 = 1 := ex_1.trans (by first | rfl | decide)
  refine lv_isub hx hb dJ6_bitCount_0f7a4_8 ?_
  refine lv_topi (fun x_2 ex_2 => ?_)
  obtain rfl : x_2 = 6 := ex_2.trans (by first | rfl | decide)
  refine lv_istore_n (lv' := [(0, .int 6)]) hx hb dJ6_bitCount_0f7a4_9 rfl hl (by decide) rfl (fun ls hl => ?_)
  refine lv_iload_n hx hb dJ6_bitCount_0f7a4_10 rfl (lv_at hl 0 rfl) ?_
  refine lv_ldcw (v := 858993459) hx hb hown (hts (.constant RJ6 266 858993459) (by decide +kernel)) dJ6_bitCount_0f7a4_11 ?_
  refine lv_iand hx hb dJ6_bitCount_0f7a4_14 ?_
  refine lv_topi (fun x_3 ex_3 => ?_)
  obtain rfl : x_3 = 2 := ex_3.trans (by first | rfl | decide)
  refine lv_iload_n hx hb dJ6_bitCount_0f7a4_15 rfl (lv_at hl 0 rfl) ?_
  refine lv_iconst (v := 2) hx hb dJ6_bitCount_0f7a4_16 (by decide) ?_
  refine lv_iushr (v := 1) hx hb dJ6_bitCount_0f7a4_17 (by decide) ?_
  refine lv_ldcw (v := 858993459) hx hb hown (hts (.constant RJ6 266 858993459) (by decide +kernel)) dJ6_bitCount_0f7a4_18 ?_
  refine lv_iand hx hb dJ6_bitCount_0f7a4_21 ?_
  refine lv_topi (fun x_4 ex_4 => ?_)
  obtain rfl : x_4 = 1 := ex_4.trans (by first | rfl | decide)
  refine lv_iadd hx hb dJ6_bitCount_0f7a4_22 ?_
  refine lv_topi (fun x_5 ex_5 => ?_)
  obtain rfl : x_5 = 3 := ex_5.trans (by first | rfl | decide)
  refine lv_istore_n (lv' := [(0, .int 3)]) hx hb dJ6_bitCount_0f7a4_23 rfl hl (by decide) rfl (fun ls hl => ?_)
  refine lv_iload_n hx hb dJ6_bitCount_0f7a4_24 rfl (lv_at hl 0 rfl) ?_
  refine lv_iload_n hx hb dJ6_bitCount_0f7a4_25 rfl (lv_at hl 0 rfl) ?_
  refine lv_iconst (v := 4) hx hb dJ6_bitCount_0f7a4_26 (by decide) ?_
  refine lv_iushr (v := 0) hx hb dJ6_bitCount_0f7a4_27 (by decide) ?_
  refine lv_iadd hx hb dJ6_bitCount_0f7a4_28 ?_
  refine lv_topi (fun x_6 ex_6 => ?_)
  obtain rfl : x_6 = 3 := ex_6.trans (by first | rfl | decide)
  refine lv_ldcw (v := 252645135) hx hb hown (hts (.constant RJ6 267 252645135) (by decide +kernel)) dJ6_bitCount_0f7a4_29 ?_
  refine lv_iand hx hb dJ6_bitCount_0f7a4_32 ?_
  refine lv_topi (fun x_7 ex_7 => ?_)
  obtain rfl : x_7 = 3 := ex_7.trans (by first | rfl | decide)
  refine lv_istore_n (lv' := [(0, .int 3)]) hx hb dJ6_bitCount_0f7a4_33 rfl hl (by decide) rfl (fun ls hl => ?_)
  refine lv_iload_n hx hb dJ6_bitCount_0f7a4_34 rfl (lv_at hl 0 rfl) ?_
  refine lv_iload_n hx hb dJ6_bitCount_0f7a4_35 rfl (lv_at hl 0 rfl) ?_
  refine lv_bipush (v := 8) hx hb dJ6_bitCount_0f7a4_36 (by decide) ?_
  refine lv_iushr (v := 0) hx hb dJ6_bitCount_0f7a4_38 (by decide) ?_
  refine lv_iadd hx hb dJ6_bitCount_0f7a4_39 ?_
  refine lv_topi (fun x_8 ex_8 => ?_)
  obtain rfl : x_8 = 3 := ex_8.trans (by first | rfl | decide)
  refine lv_istore_n (lv' := [(0, .int 3)]) hx hb dJ6_bitCount_0f7a4_40 rfl hl (by decide) rfl (fun ls hl => ?_)
  refine lv_iload_n hx hb dJ6_bitCount_0f7a4_41 rfl (lv_at hl 0 rfl) ?_
  refine lv_iload_n hx hb dJ6_bitCount_0f7a4_42 rfl (lv_at hl 0 rfl) ?_
  refine lv_bipush (v := 16) hx hb dJ6_bitCount_0f7a4_43 (by decide) ?_
  refine lv_iushr (v := 0) hx hb dJ6_bitCount_0f7a4_45 (by decide) ?_
  refine lv_iadd hx hb dJ6_bitCount_0f7a4_46 ?_
  refine lv_topi (fun x_9 ex_9 => ?_)
  obtain rfl : x_9 = 3 := ex_9.trans (by first | rfl | decide)
  refine lv_istore_n (lv' := [(0, .int 3)]) hx hb dJ6_bitCount_0f7a4_47 rfl hl (by decide) rfl (fun ls hl => ?_)
  refine lv_iload_n hx hb dJ6_bitCount_0f7a4_48 rfl (lv_at hl 0 rfl) ?_
  refine lv_bipush (v := 63) hx hb dJ6_bitCount_0f7a4_49 (by decide) ?_
  refine lv_iand hx hb dJ6_bitCount_0f7a4_51 ?_
  refine lv_topi (fun x_10 ex_10 => ?_)
  obtain rfl : x_10 = 3 := ex_10.trans (by first | rfl | decide)
  refine W.widen (k := 0) (n := 0) (Nat.le_of_ble_eq_true rfl) (Nat.le_of_ble_eq_true rfl) ?_
  exact W.iret (v := 3) hx hb hr (fun t ht hW => ⟨⟨3, (), rfl, rfl, trivial⟩, hS.F ht⟩) hS.2.2 dJ6_bitCount_0f7a4_52
set_option maxHeartbeats 4000000 in
set_option maxRecDepth 100000 in
theorem c_X3_canTell_t0 (l : Launch) (dC : Nat → ClassId) (dI : Nat → Nat → Nat) (cB cI cJ : ClassId) (sz : Nat) (xHan hH hR hT hM : Nat) : Met l yX3_canTell wsX3_canTell ({ frames := 1, cells := 0, slots := 0, locals := 24 }) (va_Pc [.ref xHan] (fun U => U.heap.size = sz ∧ va_P (dC, dI) vwCl [(xHan, .inr (3, [.int 0, .int 0, .int 0, .ref hH, .ref hR, .ref hT, .ref hM])), (hM, .inl (cJ, 6, (.inr (.inl (fun _ => 0)))))] U.heap ∧ va_K (dC, dI) vwCl [(cB, .byte), (cI, .int), (cJ, .long)] U ∧ va_D (fun _ => True) [(xHan, .inr (3, [.int 0, .int 0, .int 0, .ref hH, .ref hR, .ref hT, .ref hM])), (hM, .inl (cJ, 6, (.inr (.inl (fun _ => 0)))))])) (va_Qi (fun (r : Int32) (_ : Unit) => r = 0) (fun _ t => va_P (dC, dI) vwCl [(xHan, .inr (3, [.int 0, .int 0, .int 0, .ref hH, .ref hR, .ref hT, .ref hM])), (hM, .inl (cJ, 6, (.inr (.inl (fun _ => 0)))))] t.heap ∧ va_K (dC, dI) vwCl [(cB, .byte), (cI, .int), (cJ, .long)] t ∧ va_D (va_A [(xHan, .inr (3, [.int 0, .int 0, .int 0, .ref hH, .ref hR, .ref hT, .ref hM])), (hM, .inl (cJ, 6, (.inr (.inl (fun _ => 0)))))] sz) [(xHan, .inr (3, [.int 0, .int 0, .int 0, .ref hH, .ref hR, .ref hT, .ref hM])), (hM, .inl (cJ, 6, (.inr (.inl (fun _ => 0)))))]) (va_A [(xHan, .inr (3, [.int 0, .int 0, .int 0, .ref hH, .ref hR, .ref hT, .ref hM])), (hM, .inl (cJ, 6, (.inr (.inl (fun _ => 0)))))] sz)) 0 0 (va_A [(xHan, .inr (3, [.int 0, .int 0, .int 0, .ref hH, .ref hR, .ref hT, .ref hM])), (hM, .inl (cJ, 6, (.inr (.inl (fun _ => 0)))))] sz) := by
  refine Met.ofW (cc := cX3_canTell) (maxL := 2) (ret := (some .boolean)) (by decide) rfl ?_
  intro p e s m args below meth c s₁ B hml hv
  obtain ⟨rfl, hsz, hP, hK, hD0⟩ := hv
  have hx := B.exec
  have hb := B.bytes
  have hr := B.returns
  have hts := atoms_spec (ws := wsX3_canTell) B.pre
  have hown : s.vm.findClass RX3 = some m.cls := findClass_of_methodNamed B.named
  have hlocks := B.notSynchronized
  have hiX3 : ∀ w ∈ u_ws RX3 TX3 7, w ∈ wsX3_canTell := by decide +kernel
  subst hsz
  have hD := hD0.self (sz := s.heap.size)
  generalize hAe : va_A [(xHan, .inr (3, [.int 0, .int 0, .int 0, .ref hH, .ref hR, .ref hT, .ref hM])), (hM, .inl (cJ, 6, (.inr (.inl (fun _ => 0)))))] s.heap.size = A at hD ⊢
  have hA : ∀ q : Nat, s.heap.size ≤ q → A q := fun q h => by rw [← hAe]; exact Or.inr h
  have hS : va_S A s.heap s.heap [] := va_S.rf
  have hP : va_P (dC, dI) vwCl [(xHan, .inr (3, [.int 0, .int 0, .int 0, .ref hH, .ref hR, .ref hT, .ref hM])), (hM, .inl (cJ, 6, (.inr (.inl (fun _ => 0)))))] s.heap := hP
  have hl := lv_entry ([.ref xHan]) (n := 2) (Nat.le_of_ble_eq_true rfl)
  rw [lg_entry_eq]
  generalize (lg_sl ([.ref xHan]) ++ List.replicate (2 - (lg_sl ([.ref xHan])).length) Slot.unset).toArray = ls at hl ⊢
  have hl : lv_has ls 2 [(0, .ref xHan)] := hl
  refine lv_iconst (v := 0) hx hb dX3_canTell_0 (by decide) ?_
  refine lv_istore_n (lv' := [(1, .int 0), (0, .ref xHan)]) hx hb dX3_canTell_1 rfl hl (by decide) rfl (fun ls hl => ?_)
  refine lv_iload_n hx hb dX3_canTell_2 rfl (lv_at hl 0 rfl) ?_
  refine lv_aload_n hx hb dX3_canTell_3 rfl (lv_at hl 1 rfl) ?_
  refine va_get (D := (dC, dI)) (ci := 3) (v := .ref hM) (C := RX3) (T := TX3) (N := 7) hx hb hts hiX3 hown hK hP 0 rfl rfl 6 (by decide) (hts (.fieldLink RX3 22 "ScissorsTable$Hang" "times" "[J") (by decide +kernel)) (fun _ h9 => h9) rfl dX3_canTell_4 ?_
  refine va_alen (v := 6) hx hb hK hP 1 2 rfl rfl rfl dX3_canTell_7 ?_
  refine lv_icmp_ge (tgt := 44) hx hb dX3_canTell_8 (by decide) (fun c => absurd c (by decide)) (fun _ => ?_)
  refine lv_aload_n hx hb dX3_canTell_11 rfl (lv_at hl 1 rfl) ?_
  refine va_get (D := (dC, dI)) (ci := 3) (v := .int 0) (C := RX3) (T := TX3) (N := 7) hx hb hts hiX3 hown hK hP 0 rfl rfl 2 (by decide) (hts (.fieldLink RX3 32 "ScissorsTable$Hang" "related" "Z") (by decide +kernel)) (fun _ h9 => h9) rfl dX3_canTell_12 ?_
  refine lv_if_eq (tgt := 38) hx hb dX3_canTell_15 (by decide) (fun _ => ?_) (fun c => absurd (by decide) c)
  refine lv_iinc (v := 1) (lv' := [(1, .int 1), (0, .ref xHan)]) hx hb dX3_canTell_38 hl (k := 0) rfl (by decide) (by decide) rfl (fun ls hl => ?_)
  refine lv_goto (tgt := 2) hx hb dX3_canTell_41 (by decide) ?_
  refine lv_iload_n hx hb dX3_canTell_2 rfl (lv_at hl 0 rfl) ?_
  refine lv_aload_n hx hb dX3_canTell_3 rfl (lv_at hl 1 rfl) ?_
  refine va_get (D := (dC, dI)) (ci := 3) (v := .ref hM) (C := RX3) (T := TX3) (N := 7) hx hb hts hiX3 hown hK hP 0 rfl rfl 6 (by decide) (hts (.fieldLink RX3 22 "ScissorsTable$Hang" "times" "[J") (by decide +kernel)) (fun _ h9 => h9) rfl dX3_canTell_4 ?_
  refine va_alen (v := 6) hx hb hK hP 1 2 rfl rfl rfl dX3_canTell_7 ?_
  refine lv_icmp_ge (tgt := 44) hx hb dX3_canTell_8 (by decide) (fun c => absurd c (by decide)) (fun _ => ?_)
  refine lv_aload_n hx hb dX3_canTell_11 rfl (lv_at hl 1 rfl) ?_
  refine va_get (D := (dC, dI)) (ci := 3) (v := .int 0) (C := RX3) (T := TX3) (N := 7) hx hb hts hiX3 hown hK hP 0 rfl rfl 2 (by decide) (hts (.fieldLink RX3 32 "ScissorsTable$Hang" "related" "Z") (by decide +kernel)) (fun _ h9 => h9) rfl dX3_canTell_12 ?_
  refine lv_if_eq (tgt := 38) hx hb dX3_canTell_15 (by decide) (fun _ => ?_) (fun c => absurd (by decide) c)
  refine lv_iinc (v := 2) (lv' := [(1, .int 2), (0, .ref xHan)]) hx hb dX3_canTell_38 hl (k := 0) rfl (by decide) (by decide) rfl (fun ls hl => ?_)
  refine lv_goto (tgt := 2) hx hb dX3_canTell_41 (by decide) ?_
  refine lv_iload_n hx hb dX3_canTell_2 rfl (lv_at hl 0 rfl) ?_
  refine lv_aload_n hx hb dX3_canTell_3 rfl (lv_at hl 1 rfl) ?_
  refine va_get (D := (dC, dI)) (ci := 3) (v := .ref hM) (C := RX3) (T := TX3) (N := 7) hx hb hts hiX3 hown hK hP 0 rfl rfl 6 (by decide) (hts (.fieldLink RX3 22 "ScissorsTable$Hang" "times" "[J") (by decide +kernel)) (fun _ h9 => h9) rfl dX3_canTell_4 ?_
  refine va_alen (v := 6) hx hb hK hP 1 2 rfl rfl rfl dX3_canTell_7 ?_
  refine lv_icmp_ge (tgt := 44) hx hb dX3_canTell_8 (by decide) (fun c => absurd c (by decide)) (fun _ => ?_)
  refine lv_aload_n hx hb dX3_canTell_11 rfl (lv_at hl 1 rfl) ?_
  refine va_get (D := (dC, dI)) (ci := 3) (v := .int 0) (C := RX3) (T := TX3) (N := 7) hx hb hts hiX3 hown hK hP 0 rfl rfl 2 (by decide) (hts (.fieldLink RX3 32 "ScissorsTable$Hang" "related" "Z") (by decide +kernel)) (fun _ h9 => h9) rfl dX3_canTell_12 ?_
  refine lv_if_eq (tgt := 38) hx hb dX3_canTell_15 (by decide) (fun _ => ?_) (fun c => absurd (by decide) c)
  refine lv_iinc (v := 3) (lv' := [(1, .int 3), (0, .ref xHan)]) hx hb dX3_canTell_38 hl (k := 0) rfl (by decide) (by decide) rfl (fun ls hl => ?_)
  refine lv_goto (tgt := 2) hx hb dX3_canTell_41 (by decide) ?_
  refine lv_iload_n hx hb dX3_canTell_2 rfl (lv_at hl 0 rfl) ?_
  refine lv_aload_n hx hb dX3_canTell_3 rfl (lv_at hl 1 rfl) ?_
  refine va_get (D := (dC, dI)) (ci := 3) (v := .ref hM) (C := RX3) (T := TX3) (N := 7) hx hb hts hiX3 hown hK hP 0 rfl rfl 6 (by decide) (hts (.fieldLink RX3 22 "ScissorsTable$Hang" "times" "[J") (by decide +kernel)) (fun _ h9 => h9) rfl dX3_canTell_4 ?_
  refine va_alen (v := 6) hx hb hK hP 1 2 rfl rfl rfl dX3_canTell_7 ?_
  refine lv_icmp_ge (tgt := 44) hx hb dX3_canTell_8 (by decide) (fun c => absurd c (by decide)) (fun _ => ?_)
  refine lv_aload_n hx hb dX3_canTell_11 rfl (lv_at hl 1 rfl) ?_
  refine va_get (D := (dC, dI)) (ci := 3) (v := .int 0) (C := RX3) (T := TX3) (N := 7) hx hb hts hiX3 hown hK hP 0 rfl rfl 2 (by decide) (hts (.fieldLink RX3 32 "ScissorsTable$Hang" "related" "Z") (by decide +kernel)) (fun _ h9 => h9) rfl dX3_canTell_12 ?_
  refine lv_if_eq (tgt := 38) hx hb dX3_canTell_15 (by decide) (fun _ => ?_) (fun c => absurd (by decide) c)
  refine lv_iinc (v := 4) (lv' := [(1, .int 4), (0, .ref xHan)]) hx hb dX3_canTell_38 hl (k := 0) rfl (by decide) (by decide) rfl (fun ls hl => ?_)
  refine lv_goto (tgt := 2) hx hb dX3_canTell_41 (by decide) ?_
  refine lv_iload_n hx hb dX3_canTell_2 rfl (lv_at hl 0 rfl) ?_
  refine lv_aload_n hx hb dX3_canTell_3 rfl (lv_at hl 1 rfl) ?_
  refine va_get (D := (dC, dI)) (ci := 3) (v := .ref hM) (C := RX3) (T := TX3) (N := 7) hx hb hts hiX3 hown hK hP 0 rfl rfl 6 (by decide) (hts (.fieldLink RX3 22 "ScissorsTable$Hang" "times" "[J") (by decide +kernel)) (fun _ h9 => h9) rfl dX3_canTell_4 ?_
  refine va_alen (v := 6) hx hb hK hP 1 2 rfl rfl rfl dX3_canTell_7 ?_
  refine lv_icmp_ge (tgt := 44) hx hb dX3_canTell_8 (by decide) (fun c => absurd c (by decide)) (fun _ => ?_)
  refine lv_aload_n hx hb dX3_canTell_11 rfl (lv_at hl 1 rfl) ?_
  refine va_get (D := (dC, dI)) (ci := 3) (v := .int 0) (C := RX3) (T := TX3) (N := 7) hx hb hts hiX3 hown hK hP 0 rfl rfl 2 (by decide) (hts (.fieldLink RX3 32 "ScissorsTable$Hang" "related" "Z") (by decide +kernel)) (fun _ h9 => h9) rfl dX3_canTell_12 ?_
  refine lv_if_eq (tgt := 38) hx hb dX3_canTell_15 (by decide) (fun _ => ?_) (fun c => absurd (by decide) c)
  refine lv_iinc (v := 5) (lv' := [(1, .int 5), (0, .ref xHan)]) hx hb dX3_canTell_38 hl (k := 0) rfl (by decide) (by decide) rfl (fun ls hl => ?_)
  refine lv_goto (tgt := 2) hx hb dX3_canTell_41 (by decide) ?_
  refine lv_iload_n hx hb dX3_canTell_2 rfl (lv_at hl 0 rfl) ?_
  refine lv_aload_n hx hb dX3_canTell_3 rfl (lv_at hl 1 rfl) ?_
  refine va_get (D := (dC, dI)) (ci := 3) (v := .ref hM) (C := RX3) (T := TX3) (N := 7) hx hb hts hiX3 hown hK hP 0 rfl rfl 6 (by decide) (hts (.fieldLink RX3 22 "ScissorsTable$Hang" "times" "[J") (by decide +kernel)) (fun _ h9 => h9) rfl dX3_canTell_4 ?_
  refine va_alen (v := 6) hx hb hK hP 1 2 rfl rfl rfl dX3_canTell_7 ?_
  refine lv_icmp_ge (tgt := 44) hx hb dX3_canTell_8 (by decide) (fun c => absurd c (by decide)) (fun _ => ?_)
  refine lv_aload_n hx hb dX3_canTell_11 rfl (lv_at hl 1 rfl) ?_
  refine va_get (D := (dC, dI)) (ci := 3) (v := .int 0) (C := RX3) (T := TX3) (N := 7) hx hb hts hiX3 hown hK hP 0 rfl rfl 2 (by decide) (hts (.fieldLink RX3 32 "ScissorsTable$Hang" "related" "Z") (by decide +kernel)) (fun _ h9 => h9) rfl dX3_canTell_12 ?_
  refine lv_if_eq (tgt := 38) hx hb dX3_canTell_15 (by decide) (fun _ => ?_) (fun c => absurd (by decide) c)
  refine lv_iinc (v := 6) (lv' := [(1, .int 6), (0, .ref xHan)]) hx hb dX3_canTell_38 hl (k := 0) rfl (by decide) (by decide) rfl (fun ls hl => ?_)
  refine lv_goto (tgt := 2) hx hb dX3_canTell_41 (by decide) ?_
  refine lv_iload_n hx hb dX3_canTell_2 rfl (lv_at hl 0 rfl) ?_
  refine lv_aload_n hx hb dX3_canTell_3 rfl (lv_at hl 1 rfl) ?_
  refine va_get (D := (dC, dI)) (ci := 3) (v := .ref hM) (C := RX3) (T := TX3) (N := 7) hx hb hts hiX3 hown hK hP 0 rfl rfl 6 (by decide) (hts (.fieldLink RX3 22 "ScissorsTable$Hang" "times" "[J") (by decide +kernel)) (fun _ h9 => h9) rfl dX3_canTell_4 ?_
  refine va_alen (v := 6) hx hb hK hP 1 2 rfl rfl rfl dX3_canTell_7 ?_
  refine lv_icmp_ge (tgt := 44) hx hb dX3_canTell_8 (by decide) (fun _ => ?_) (fun c => absurd (by decide) c)
  refine lv_aload_n hx hb dX3_canTell_44 rfl (lv_at hl 1 rfl) ?_
  refine va_get (D := (dC, dI)) (ci := 3) (v := .int 0) (C := RX3) (T := TX3) (N := 7) hx hb hts hiX3 hown hK hP 0 rfl rfl 2 (by decide) (hts (.fieldLink RX3 32 "ScissorsTable$Hang" "related" "Z") (by decide +kernel)) (fun _ h9 => h9) rfl dX3_canTell_45 ?_
  have hP9 := hP.sub (ws' := [(xHan, .inr (3, [.int 0, .int 0, .int 0, .ref hH, .ref hR, .ref hT, .ref hM])), (hM, .inl (cJ, 6, (.inr (.inl (fun _ => 0)))))]) [0, 1] rfl
  have hD9 := hD.sub (ws' := [(xHan, .inr (3, [.int 0, .int 0, .int 0, .ref hH, .ref hR, .ref hT, .ref hM])), (hM, .inl (cJ, 6, (.inr (.inl (fun _ => 0)))))]) [0, 1] (by decide) rfl
  refine W.widen (k := 0) (n := 0) (Nat.le_of_ble_eq_true rfl) (Nat.le_of_ble_eq_true rfl) ?_
  exact W.zret (v := 0) hx hb hr (by decide) (fun t ht hW => ⟨⟨0, (), rfl, rfl, by rw [ht]; exact hP9, va_K.moved hW.alike hK, hD9⟩, hS.F ht⟩) hS.2.2 dX3_canTell_48
set_option maxHeartbeats 4000000 in
set_option maxRecDepth 100000 in
theorem c_X3_canTell_t1 (l : Launch) (dC : Nat → ClassId) (dI : Nat → Nat → Nat) (cB cI cJ : ClassId) (sz : Nat) (xHan hH hR hT hM : Nat) : Met l yX3_canTell wsX3_canTell ({ frames := 1, cells := 0, slots := 0, locals := 24 }) (va_Pc [.ref xHan] (fun U => U.heap.size = sz ∧ va_P (dC, dI) vwCl [(xHan, .inr (3, [.int 0, .int 1, .int 1, .ref hH, .ref hR, .ref hT, .ref hM])), (hM, .inl (cJ, 6, (.inr (.inl (vp_updL (fun _ => 0) (0 : Int32).toNatClampNeg 1)))))] U.heap ∧ va_K (dC, dI) vwCl [(cB, .byte), (cI, .int), (cJ, .long)] U ∧ va_D (fun _ => True) [(xHan, .inr (3, [.int 0, .int 1, .int 1, .ref hH, .ref hR, .ref hT, .ref hM])), (hM, .inl (cJ, 6, (.inr (.inl (vp_updL (fun _ => 0) (0 : Int32).toNatClampNeg 1)))))])) (va_Qi (fun (r : Int32) (_ : Unit) => r = 1) (fun _ t => va_P (dC, dI) vwCl [(xHan, .inr (3, [.int 0, .int 1, .int 1, .ref hH, .ref hR, .ref hT, .ref hM])), (hM, .inl (cJ, 6, (.inr (.inl (vp_updL (fun _ => 0) (0 : Int32).toNatClampNeg 1)))))] t.heap ∧ va_K (dC, dI) vwCl [(cB, .byte), (cI, .int), (cJ, .long)] t ∧ va_D (va_A [(xHan, .inr (3, [.int 0, .int 1, .int 1, .ref hH, .ref hR, .ref hT, .ref hM])), (hM, .inl (cJ, 6, (.inr (.inl (vp_updL (fun _ => 0) (0 : Int32).toNatClampNeg 1)))))] sz) [(xHan, .inr (3, [.int 0, .int 1, .int 1, .ref hH, .ref hR, .ref hT, .ref hM])), (hM, .inl (cJ, 6, (.inr (.inl (vp_updL (fun _ => 0) (0 : Int32).toNatClampNeg 1)))))]) (va_A [(xHan, .inr (3, [.int 0, .int 1, .int 1, .ref hH, .ref hR, .ref hT, .ref hM])), (hM, .inl (cJ, 6, (.inr (.inl (vp_updL (fun _ => 0) (0 : Int32).toNatClampNeg 1)))))] sz)) 0 0 (va_A [(xHan, .inr (3, [.int 0, .int 1, .int 1, .ref hH, .ref hR, .ref hT, .ref hM])), (hM, .inl (cJ, 6, (.inr (.inl (vp_updL (fun _ => 0) (0 : Int32).toNatClampNeg 1)))))] sz) := by
  refine Met.ofW (cc := cX3_canTell) (maxL := 2) (ret := (some .boolean)) (by decide) rfl ?_
  intro p e s m args below meth c s₁ B hml hv
  obtain ⟨rfl, hsz, hP, hK, hD0⟩ := hv
  have hx := B.exec
  have hb := B.bytes
  have hr := B.returns
  have hts := atoms_spec (ws := wsX3_canTell) B.pre
  have hown : s.vm.findClass RX3 = some m.cls := findClass_of_methodNamed B.named
  have hlocks := B.notSynchronized
  have hiX3 : ∀ w ∈ u_ws RX3 TX3 7, w ∈ wsX3_canTell := by decide +kernel
  subst hsz
  have hD := hD0.self (sz := s.heap.size)
  generalize hAe : va_A [(xHan, .inr (3, [.int 0, .int 1, .int 1, .ref hH, .ref hR, .ref hT, .ref hM])), (hM, .inl (cJ, 6, (.inr (.inl (vp_updL (fun _ => 0) (0 : Int32).toNatClampNeg 1)))))] s.heap.size = A at hD ⊢
  have hA : ∀ q : Nat, s.heap.size ≤ q → A q := fun q h => by rw [← hAe]; exact Or.inr h
  have hS : va_S A s.heap s.heap [] := va_S.rf
  have hP : va_P (dC, dI) vwCl [(xHan, .inr (3, [.int 0, .int 1, .int 1, .ref hH, .ref hR, .ref hT, .ref hM])), (hM, .inl (cJ, 6, (.inr (.inl (vp_updL (fun _ => 0) (0 : Int32).toNatClampNeg 1)))))] s.heap := hP
  have hl := lv_entry ([.ref xHan]) (n := 2) (Nat.le_of_ble_eq_true rfl)
  rw [lg_entry_eq]
  generalize (lg_sl ([.ref xHan]) ++ List.replicate (2 - (lg_sl ([.ref xHan])).length) Slot.unset).toArray = ls at hl ⊢
  have hl : lv_has ls 2 [(0, .ref xHan)] := hl
  refine lv_iconst (v := 0) hx hb dX3_canTell_0 (by decide) ?_
  refine lv_istore_n (lv' := [(1, .int 0), (0, .ref xHan)]) hx hb dX3_canTell_1 rfl hl (by decide) rfl (fun ls hl => ?_)
  refine lv_iload_n hx hb dX3_canTell_2 rfl (lv_at hl 0 rfl) ?_
  refine lv_aload_n hx hb dX3_canTell_3 rfl (lv_at hl 1 rfl) ?_
  refine va_get (D := (dC, dI)) (ci := 3) (v := .ref hM) (C := RX3) (T := TX3) (N := 7) hx hb hts hiX3 hown hK hP 0 rfl rfl 6 (by decide) (hts (.fieldLink RX3 22 "ScissorsTable$Hang" "times" "[J") (by decide +kernel)) (fun _ h9 => h9) rfl dX3_canTell_4 ?_
  refine va_alen (v := 6) hx hb hK hP 1 2 rfl rfl rfl dX3_canTell_7 ?_
  refine lv_icmp_ge (tgt := 44) hx hb dX3_canTell_8 (by decide) (fun c => absurd c (by decide)) (fun _ => ?_)
  refine lv_aload_n hx hb dX3_canTell_11 rfl (lv_at hl 1 rfl) ?_
  refine va_get (D := (dC, dI)) (ci := 3) (v := .int 1) (C := RX3) (T := TX3) (N := 7) hx hb hts hiX3 hown hK hP 0 rfl rfl 2 (by decide) (hts (.fieldLink RX3 32 "ScissorsTable$Hang" "related" "Z") (by decide +kernel)) (fun _ h9 => h9) rfl dX3_canTell_12 ?_
  refine lv_if_eq (tgt := 38) hx hb dX3_canTell_15 (by decide) (fun c => absurd c (by decide)) (fun _ => ?_)
  refine lv_aload_n hx hb dX3_canTell_18 rfl (lv_at hl 1 rfl) ?_
  refine va_get (D := (dC, dI)) (ci := 3) (v := .ref hM) (C := RX3) (T := TX3) (N := 7) hx hb hts hiX3 hown hK hP 0 rfl rfl 6 (by decide) (hts (.fieldLink RX3 22 "ScissorsTable$Hang" "times" "[J") (by decide +kernel)) (fun _ h9 => h9) rfl dX3_canTell_19 ?_
  refine lv_iload_n hx hb dX3_canTell_22 rfl (lv_at hl 0 rfl) ?_
  refine va_lald hx hb hK hP 1 2 rfl rfl (by show ¬ (_ ∨ _); decide) dX3_canTell_23 ?_
  refine lv_topl (fun x_1 ex_1 => ?_)
  obtain rfl : x_1 = 1 := ex_1.trans (by first | rfl | decide)
  refine lv_aload_n hx hb dX3_canTell_24 rfl (lv_at hl 1 rfl) ?_
  refine va_get (D := (dC, dI)) (ci := 3) (v := .ref hM) (C := RX3) (T := TX3) (N := 7) hx hb hts hiX3 hown hK hP 0 rfl rfl 6 (by decide) (hts (.fieldLink RX3 22 "ScissorsTable$Hang" "times" "[J") (by decide +kernel)) (fun _ h9 => h9) rfl dX3_canTell_25 ?_
  refine lv_iload_n hx hb dX3_canTell_28 rfl (lv_at hl 0 rfl) ?_
  refine va_lald hx hb hK hP 1 2 rfl rfl (by show ¬ (_ ∨ _); decide) dX3_canTell_29 ?_
  refine lv_topl (fun x_2 ex_2 => ?_)
  obtain rfl : x_2 = 1 := ex_2.trans (by first | rfl | decide)
  refine lv_l2i (v := 1) hx hb dX3_canTell_30 (by decide) ?_
  refine lv_i2l (v := 1) hx hb dX3_canTell_31 (by decide) ?_
  refine W.lcmp hx hb dX3_canTell_32 ?_
  refine lv_topi (fun x_3 ex_3 => ?_)
  obtain rfl : x_3 = 0 := ex_3.trans (by first | rfl | decide)
  refine lv_if_eq (tgt := 38) hx hb dX3_canTell_33 (by decide) (fun _ => ?_) (fun c => absurd (by decide) c)
  refine lv_iinc (v := 1) (lv' := [(1, .int 1), (0, .ref xHan)]) hx hb dX3_canTell_38 hl (k := 0) rfl (by decide) (by decide) rfl (fun ls hl => ?_)
  refine lv_goto (tgt := 2) hx hb dX3_canTell_41 (by decide) ?_
  refine lv_iload_n hx hb dX3_canTell_2 rfl (lv_at hl 0 rfl) ?_
  refine lv_aload_n hx hb dX3_canTell_3 rfl (lv_at hl 1 rfl) ?_
  refine va_get (D := (dC, dI)) (ci := 3) (v := .ref hM) (C := RX3) (T := TX3) (N := 7) hx hb hts hiX3 hown hK hP 0 rfl rfl 6 (by decide) (hts (.fieldLink RX3 22 "ScissorsTable$Hang" "times" "[J") (by decide +kernel)) (fun _ h9 => h9) rfl dX3_canTell_4 ?_
  refine va_alen (v := 6) hx hb hK hP 1 2 rfl rfl rfl dX3_canTell_7 ?_
  refine lv_icmp_ge (tgt := 44) hx hb dX3_canTell_8 (by decide) (fun c => absurd c (by decide)) (fun _ => ?_)
  refine lv_aload_n hx hb dX3_canTell_11 rfl (lv_at hl 1 rfl) ?_
  refine va_get (D := (dC, dI)) (ci := 3) (v := .int 1) (C := RX3) (T := TX3) (N := 7) hx hb hts hiX3 hown hK hP 0 rfl rfl 2 (by decide) (hts (.fieldLink RX3 32 "ScissorsTable$Hang" "related" "Z") (by decide +kernel)) (fun _ h9 => h9) rfl dX3_canTell_12 ?_
  refine lv_if_eq (tgt := 38) hx hb dX3_canTell_15 (by decide) (fun c => absurd c (by decide)) (fun _ => ?_)
  refine lv_aload_n hx hb dX3_canTell_18 rfl (lv_at hl 1 rfl) ?_
  refine va_get (D := (dC, dI)) (ci := 3) (v := .ref hM) (C := RX3) (T := TX3) (N := 7) hx hb hts hiX3 hown hK hP 0 rfl rfl 6 (by decide) (hts (.fieldLink RX3 22 "ScissorsTable$Hang" "times" "[J") (by decide +kernel)) (fun _ h9 => h9) rfl dX3_canTell_19 ?_
  refine lv_iload_n hx hb dX3_canTell_22 rfl (lv_at hl 0 rfl) ?_
  refine va_lald hx hb hK hP 1 2 rfl rfl (by show ¬ (_ ∨ _); decide) dX3_canTell_23 ?_
  refine lv_topl (fun x_4 ex_4 => ?_)
  obtain rfl : x_4 = 0 := ex_4.trans (by first | rfl | decide)
  refine lv_aload_n hx hb dX3_canTell_24 rfl (lv_at hl 1 rfl) ?_
  refine va_get (D := (dC, dI)) (ci := 3) (v := .ref hM) (C := RX3) (T := TX3) (N := 7) hx hb hts hiX3 hown hK hP 0 rfl rfl 6 (by decide) (hts (.fieldLink RX3 22 "ScissorsTable$Hang" "times" "[J") (by decide +kernel)) (fun _ h9 => h9) rfl dX3_canTell_25 ?_
  refine lv_iload_n hx hb dX3_canTell_28 rfl (lv_at hl 0 rfl) ?_
  refine va_lald hx hb hK hP 1 2 rfl rfl (by show ¬ (_ ∨ _); decide) dX3_canTell_29 ?_
  refine lv_topl (fun x_5 ex_5 => ?_)
  obtain rfl : x_5 = 0 := ex_5.trans (by first | rfl | decide)
  refine lv_l2i (v := 0) hx hb dX3_canTell_30 (by decide) ?_
  refine lv_i2l (v := 0) hx hb dX3_canTell_31 (by decide) ?_
  refine W.lcmp hx hb dX3_canTell_32 ?_
  refine lv_topi (fun x_6 ex_6 => ?_)
  obtain rfl : x_6 = 0 := ex_6.trans (by first | rfl | decide)
  refine lv_if_eq (tgt := 38) hx hb dX3_canTell_33 (by decide) (fun _ => ?_) (fun c => absurd (by decide) c)
  refine lv_iinc (v := 2) (lv' := [(1, .int 2), (0, .ref xHan)]) hx hb dX3_canTell_38 hl (k := 0) rfl (by decide) (by decide) rfl (fun ls hl => ?_)
  refine lv_goto (tgt := 2) hx hb dX3_canTell_41 (by decide) ?_
  refine lv_iload_n hx hb dX3_canTell_2 rfl (lv_at hl 0 rfl) ?_
  refine lv_aload_n hx hb dX3_canTell_3 rfl (lv_at hl 1 rfl) ?_
  refine va_get (D := (dC, dI)) (ci := 3) (v := .ref hM) (C := RX3) (T := TX3) (N := 7) hx hb hts hiX3 hown hK hP 0 rfl rfl 6 (by decide) (hts (.fieldLink RX3 22 "ScissorsTable$Hang" "times" "[J") (by decide +kernel)) (fun _ h9 => h9) rfl dX3_canTell_4 ?_
  refine va_alen (v := 6) hx hb hK hP 1 2 rfl rfl rfl dX3_canTell_7 ?_
  refine lv_icmp_ge (tgt := 44) hx hb dX3_canTell_8 (by decide) (fun c => absurd c (by decide)) (fun _ => ?_)
  refine lv_aload_n hx hb dX3_canTell_11 rfl (lv_at hl 1 rfl) ?_
  refine va_get (D := (dC, dI)) (ci := 3) (v := .int 1) (C := RX3) (T := TX3) (N := 7) hx hb hts hiX3 hown hK hP 0 rfl rfl 2 (by decide) (hts (.fieldLink RX3 32 "ScissorsTable$Hang" "related" "Z") (by decide +kernel)) (fun _ h9 => h9) rfl dX3_canTell_12 ?_
  refine lv_if_eq (tgt := 38) hx hb dX3_canTell_15 (by decide) (fun c => absurd c (by decide)) (fun _ => ?_)
  refine lv_aload_n hx hb dX3_canTell_18 rfl (lv_at hl 1 rfl) ?_
  refine va_get (D := (dC, dI)) (ci := 3) (v := .ref hM) (C := RX3) (T := TX3) (N := 7) hx hb hts hiX3 hown hK hP 0 rfl rfl 6 (by decide) (hts (.fieldLink RX3 22 "ScissorsTable$Hang" "times" "[J") (by decide +kernel)) (fun _ h9 => h9) rfl dX3_canTell_19 ?_
  refine lv_iload_n hx hb dX3_canTell_22 rfl (lv_at hl 0 rfl) ?_
  refine va_lald hx hb hK hP 1 2 rfl rfl (by show ¬ (_ ∨ _); decide) dX3_canTell_23 ?_
  refine lv_topl (fun x_7 ex_7 => ?_)
  obtain rfl : x_7 = 0 := ex_7.trans (by first | rfl | decide)
  refine lv_aload_n hx hb dX3_canTell_24 rfl (lv_at hl 1 rfl) ?_
  refine va_get (D := (dC, dI)) (ci := 3) (v := .ref hM) (C := RX3) (T := TX3) (N := 7) hx hb hts hiX3 hown hK hP 0 rfl rfl 6 (by decide) (hts (.fieldLink RX3 22 "ScissorsTable$Hang" "times" "[J") (by decide +kernel)) (fun _ h9 => h9) rfl dX3_canTell_25 ?_
  refine lv_iload_n hx hb dX3_canTell_28 rfl (lv_at hl 0 rfl) ?_
  refine va_lald hx hb hK hP 1 2 rfl rfl (by show ¬ (_ ∨ _); decide) dX3_canTell_29 ?_
  refine lv_topl (fun x_8 ex_8 => ?_)
  obtain rfl : x_8 = 0 := ex_8.trans (by first | rfl | decide)
  refine lv_l2i (v := 0) hx hb dX3_canTell_30 (by decide) ?_
  refine lv_i2l (v := 0) hx hb dX3_canTell_31 (by decide) ?_
  refine W.lcmp hx hb dX3_canTell_32 ?_
  refine lv_topi (fun x_9 ex_9 => ?_)
  obtain rfl : x_9 = 0 := ex_9.trans (by first | rfl | decide)
  refine lv_if_eq (tgt := 38) hx hb dX3_canTell_33 (by decide) (fun _ => ?_) (fun c => absurd (by decide) c)
  refine lv_iinc (v := 3) (lv' := [(1, .int 3), (0, .ref xHan)]) hx hb dX3_canTell_38 hl (k := 0) rfl (by decide) (by decide) rfl (fun ls hl => ?_)
  refine lv_goto (tgt := 2) hx hb dX3_canTell_41 (by decide) ?_
  refine lv_iload_n hx hb dX3_canTell_2 rfl (lv_at hl 0 rfl) ?_
  refine lv_aload_n hx hb dX3_canTell_3 rfl (lv_at hl 1 rfl) ?_
  refine va_get (D := (dC, dI)) (ci := 3) (v := .ref hM) (C := RX3) (T := TX3) (N := 7) hx hb hts hiX3 hown hK hP 0 rfl rfl 6 (by decide) (hts (.fieldLink RX3 22 "ScissorsTable$Hang" "times" "[J") (by decide +kernel)) (fun _ h9 => h9) rfl dX3_canTell_4 ?_
  refine va_alen (v := 6) hx hb hK hP 1 2 rfl rfl rfl dX3_canTell_7 ?_
  refine lv_icmp_ge (tgt := 44) hx hb dX3_canTell_8 (by decide) (fun c => absurd c (by decide)) (fun _ => ?_)
  refine lv_aload_n hx hb dX3_canTell_11 rfl (lv_at hl 1 rfl) ?_
  refine va_get (D := (dC, dI)) (ci := 3) (v := .int 1) (C := RX3) (T := TX3) (N := 7) hx hb hts hiX3 hown hK hP 0 rfl rfl 2 (by decide) (hts (.fieldLink RX3 32 "ScissorsTable$Hang" "related" "Z") (by decide +kernel)) (fun _ h9 => h9) rfl dX3_canTell_12 ?_
  refine lv_if_eq (tgt := 38) hx hb dX3_canTell_15 (by decide) (fun c => absurd c (by decide)) (fun _ => ?_)
  refine lv_aload_n hx hb dX3_canTell_18 rfl (lv_at hl 1 rfl) ?_
  refine va_get (D := (dC, dI)) (ci := 3) (v := .ref hM) (C := RX3) (T := TX3) (N := 7) hx hb hts hiX3 hown hK hP 0 rfl rfl 6 (by decide) (hts (.fieldLink RX3 22 "ScissorsTable$Hang" "times" "[J") (by decide +kernel)) (fun _ h9 => h9) rfl dX3_canTell_19 ?_
  refine lv_iload_n hx hb dX3_canTell_22 rfl (lv_at hl 0 rfl) ?_
  refine va_lald hx hb hK hP 1 2 rfl rfl (by show ¬ (_ ∨ _); decide) dX3_canTell_23 ?_
  refine lv_topl (fun x_10 ex_10 => ?_)
  obtain rfl : x_10 = 0 := ex_10.trans (by first | rfl | decide)
  refine lv_aload_n hx hb dX3_canTell_24 rfl (lv_at hl 1 rfl) ?_
  refine va_get (D := (dC, dI)) (ci := 3) (v := .ref hM) (C := RX3) (T := TX3) (N := 7) hx hb hts hiX3 hown hK hP 0 rfl rfl 6 (by decide) (hts (.fieldLink RX3 22 "ScissorsTable$Hang" "times" "[J") (by decide +kernel)) (fun _ h9 => h9) rfl dX3_canTell_25 ?_
  refine lv_iload_n hx hb dX3_canTell_28 rfl (lv_at hl 0 rfl) ?_
  refine va_lald hx hb hK hP 1 2 rfl rfl (by show ¬ (_ ∨ _); decide) dX3_canTell_29 ?_
  refine lv_topl (fun x_11 ex_11 => ?_)
  obtain rfl : x_11 = 0 := ex_11.trans (by first | rfl | decide)
  refine lv_l2i (v := 0) hx hb dX3_canTell_30 (by decide) ?_
  refine lv_i2l (v := 0) hx hb dX3_canTell_31 (by decide) ?_
  refine W.lcmp hx hb dX3_canTell_32 ?_
  refine lv_topi (fun x_12 ex_12 => ?_)
  obtain rfl : x_12 = 0 := ex_12.trans (by first | rfl | decide)
  refine lv_if_eq (tgt := 38) hx hb dX3_canTell_33 (by decide) (fun _ => ?_) (fun c => absurd (by decide) c)
  refine lv_iinc (v := 4) (lv' := [(1, .int 4), (0, .ref xHan)]) hx hb dX3_canTell_38 hl (k := 0) rfl (by decide) (by decide) rfl (fun ls hl => ?_)
  refine lv_goto (tgt := 2) hx hb dX3_canTell_41 (by decide) ?_
  refine lv_iload_n hx hb dX3_canTell_2 rfl (lv_at hl 0 rfl) ?_
  refine lv_aload_n hx hb dX3_canTell_3 rfl (lv_at hl 1 rfl) ?_
  refine va_get (D := (dC, dI)) (ci := 3) (v := .ref hM) (C := RX3) (T := TX3) (N := 7) hx hb hts hiX3 hown hK hP 0 rfl rfl 6 (by decide) (hts (.fieldLink RX3 22 "ScissorsTable$Hang" "times" "[J") (by decide +kernel)) (fun _ h9 => h9) rfl dX3_canTell_4 ?_
  refine va_alen (v := 6) hx hb hK hP 1 2 rfl rfl rfl dX3_canTell_7 ?_
  refine lv_icmp_ge (tgt := 44) hx hb dX3_canTell_8 (by decide) (fun c => absurd c (by decide)) (fun _ => ?_)
  refine lv_aload_n hx hb dX3_canTell_11 rfl (lv_at hl 1 rfl) ?_
  refine va_get (D := (dC, dI)) (ci := 3) (v := .int 1) (C := RX3) (T := TX3) (N := 7) hx hb hts hiX3 hown hK hP 0 rfl rfl 2 (by decide) (hts (.fieldLink RX3 32 "ScissorsTable$Hang" "related" "Z") (by decide +kernel)) (fun _ h9 => h9) rfl dX3_canTell_12 ?_
  refine lv_if_eq (tgt := 38) hx hb dX3_canTell_15 (by decide) (fun c => absurd c (by decide)) (fun _ => ?_)
  refine lv_aload_n hx hb dX3_canTell_18 rfl (lv_at hl 1 rfl) ?_
  refine va_get (D := (dC, dI)) (ci := 3) (v := .ref hM) (C := RX3) (T := TX3) (N := 7) hx hb hts hiX3 hown hK hP 0 rfl rfl 6 (by decide) (hts (.fieldLink RX3 22 "ScissorsTable$Hang" "times" "[J") (by decide +kernel)) (fun _ h9 => h9) rfl dX3_canTell_19 ?_
  refine lv_iload_n hx hb dX3_canTell_22 rfl (lv_at hl 0 rfl) ?_
  refine va_lald hx hb hK hP 1 2 rfl rfl (by show ¬ (_ ∨ _); decide) dX3_canTell_23 ?_
  refine lv_topl (fun x_13 ex_13 => ?_)
  obtain rfl : x_13 = 0 := ex_13.trans (by first | rfl | decide)
  refine lv_aload_n hx hb dX3_canTell_24 rfl (lv_at hl 1 rfl) ?_
  refine va_get (D := (dC, dI)) (ci := 3) (v := .ref hM) (C := RX3) (T := TX3) (N := 7) hx hb hts hiX3 hown hK hP 0 rfl rfl 6 (by decide) (hts (.fieldLink RX3 22 "ScissorsTable$Hang" "times" "[J") (by decide +kernel)) (fun _ h9 => h9) rfl dX3_canTell_25 ?_
  refine lv_iload_n hx hb dX3_canTell_28 rfl (lv_at hl 0 rfl) ?_
  refine va_lald hx hb hK hP 1 2 rfl rfl (by show ¬ (_ ∨ _); decide) dX3_canTell_29 ?_
  refine lv_topl (fun x_14 ex_14 => ?_)
  obtain rfl : x_14 = 0 := ex_14.trans (by first | rfl | decide)
  refine lv_l2i (v := 0) hx hb dX3_canTell_30 (by decide) ?_
  refine lv_i2l (v := 0) hx hb dX3_canTell_31 (by decide) ?_
  refine W.lcmp hx hb dX3_canTell_32 ?_
  refine lv_topi (fun x_15 ex_15 => ?_)
  obtain rfl : x_15 = 0 := ex_15.trans (by first | rfl | decide)
  refine lv_if_eq (tgt := 38) hx hb dX3_canTell_33 (by decide) (fun _ => ?_) (fun c => absurd (by decide) c)
  refine lv_iinc (v := 5) (lv' := [(1, .int 5), (0, .ref xHan)]) hx hb dX3_canTell_38 hl (k := 0) rfl (by decide) (by decide) rfl (fun ls hl => ?_)
  refine lv_goto (tgt := 2) hx hb dX3_canTell_41 (by decide) ?_
  refine lv_iload_n hx hb dX3_canTell_2 rfl (lv_at hl 0 rfl) ?_
  refine lv_aload_n hx hb dX3_canTell_3 rfl (lv_at hl 1 rfl) ?_
  refine va_get (D := (dC, dI)) (ci := 3) (v := .ref hM) (C := RX3) (T := TX3) (N := 7) hx hb hts hiX3 hown hK hP 0 rfl rfl 6 (by decide) (hts (.fieldLink RX3 22 "ScissorsTable$Hang" "times" "[J") (by decide +kernel)) (fun _ h9 => h9) rfl dX3_canTell_4 ?_
  refine va_alen (v := 6) hx hb hK hP 1 2 rfl rfl rfl dX3_canTell_7 ?_
  refine lv_icmp_ge (tgt := 44) hx hb dX3_canTell_8 (by decide) (fun c => absurd c (by decide)) (fun _ => ?_)
  refine lv_aload_n hx hb dX3_canTell_11 rfl (lv_at hl 1 rfl) ?_
  refine va_get (D := (dC, dI)) (ci := 3) (v := .int 1) (C := RX3) (T := TX3) (N := 7) hx hb hts hiX3 hown hK hP 0 rfl rfl 2 (by decide) (hts (.fieldLink RX3 32 "ScissorsTable$Hang" "related" "Z") (by decide +kernel)) (fun _ h9 => h9) rfl dX3_canTell_12 ?_
  refine lv_if_eq (tgt := 38) hx hb dX3_canTell_15 (by decide) (fun c => absurd c (by decide)) (fun _ => ?_)
  refine lv_aload_n hx hb dX3_canTell_18 rfl (lv_at hl 1 rfl) ?_
  refine va_get (D := (dC, dI)) (ci := 3) (v := .ref hM) (C := RX3) (T := TX3) (N := 7) hx hb hts hiX3 hown hK hP 0 rfl rfl 6 (by decide) (hts (.fieldLink RX3 22 "ScissorsTable$Hang" "times" "[J") (by decide +kernel)) (fun _ h9 => h9) rfl dX3_canTell_19 ?_
  refine lv_iload_n hx hb dX3_canTell_22 rfl (lv_at hl 0 rfl) ?_
  refine va_lald hx hb hK hP 1 2 rfl rfl (by show ¬ (_ ∨ _); decide) dX3_canTell_23 ?_
  refine lv_topl (fun x_16 ex_16 => ?_)
  obtain rfl : x_16 = 0 := ex_16.trans (by first | rfl | decide)
  refine lv_aload_n hx hb dX3_canTell_24 rfl (lv_at hl 1 rfl) ?_
  refine va_get (D := (dC, dI)) (ci := 3) (v := .ref hM) (C := RX3) (T := TX3) (N := 7) hx hb hts hiX3 hown hK hP 0 rfl rfl 6 (by decide) (hts (.fieldLink RX3 22 "ScissorsTable$Hang" "times" "[J") (by decide +kernel)) (fun _ h9 => h9) rfl dX3_canTell_25 ?_
  refine lv_iload_n hx hb dX3_canTell_28 rfl (lv_at hl 0 rfl) ?_
  refine va_lald hx hb hK hP 1 2 rfl rfl (by show ¬ (_ ∨ _); decide) dX3_canTell_29 ?_
  refine lv_topl (fun x_17 ex_17 => ?_)
  obtain rfl : x_17 = 0 := ex_17.trans (by first | rfl | decide)
  refine lv_l2i (v := 0) hx hb dX3_canTell_30 (by decide) ?_
  refine lv_i2l (v := 0) hx hb dX3_canTell_31 (by decide) ?_
  refine W.lcmp hx hb dX3_canTell_32 ?_
  refine lv_topi (fun x_18 ex_18 => ?_)
  obtain rfl : x_18 = 0 := ex_18.trans (by first | rfl | decide)
  refine lv_if_eq (tgt := 38) hx hb dX3_canTell_33 (by decide) (fun _ => ?_) (fun c => absurd (by decide) c)
  refine lv_iinc (v := 6) (lv' := [(1, .int 6), (0, .ref xHan)]) hx hb dX3_canTell_38 hl (k := 0) rfl (by decide) (by decide) rfl (fun ls hl => ?_)
  refine lv_goto (tgt := 2) hx hb dX3_canTell_41 (by decide) ?_
  refine lv_iload_n hx hb dX3_canTell_2 rfl (lv_at hl 0 rfl) ?_
  refine lv_aload_n hx hb dX3_canTell_3 rfl (lv_at hl 1 rfl) ?_
  refine va_get (D := (dC, dI)) (ci := 3) (v := .ref hM) (C := RX3) (T := TX3) (N := 7) hx hb hts hiX3 hown hK hP 0 rfl rfl 6 (by decide) (hts (.fieldLink RX3 22 "ScissorsTable$Hang" "times" "[J") (by decide +kernel)) (fun _ h9 => h9) rfl dX3_canTell_4 ?_
  refine va_alen (v := 6) hx hb hK hP 1 2 rfl rfl rfl dX3_canTell_7 ?_
  refine lv_icmp_ge (tgt := 44) hx hb dX3_canTell_8 (by decide) (fun _ => ?_) (fun c => absurd (by decide) c)
  refine lv_aload_n hx hb dX3_canTell_44 rfl (lv_at hl 1 rfl) ?_
  refine va_get (D := (dC, dI)) (ci := 3) (v := .int 1) (C := RX3) (T := TX3) (N := 7) hx hb hts hiX3 hown hK hP 0 rfl rfl 2 (by decide) (hts (.fieldLink RX3 32 "ScissorsTable$Hang" "related" "Z") (by decide +kernel)) (fun _ h9 => h9) rfl dX3_canTell_45 ?_
  have hP9 := hP.sub (ws' := [(xHan, .inr (3, [.int 0, .int 1, .int 1, .ref hH, .ref hR, .ref hT, .ref hM])), (hM, .inl (cJ, 6, (.inr (.inl (vp_updL (fun _ => 0) (0 : Int32).toNatClampNeg 1)))))]) [0, 1] rfl
  have hD9 := hD.sub (ws' := [(xHan, .inr (3, [.int 0, .int 1, .int 1, .ref hH, .ref hR, .ref hT, .ref hM])), (hM, .inl (cJ, 6, (.inr (.inl (vp_updL (fun _ => 0) (0 : Int32).toNatClampNeg 1)))))]) [0, 1] (by decide) rfl
  refine W.widen (k := 0) (n := 0) (Nat.le_of_ble_eq_true rfl) (Nat.le_of_ble_eq_true rfl) ?_
  exact W.zret (v := 1) hx hb hr (by decide) (fun t ht hW => ⟨⟨1, (), rfl, rfl, by rw [ht]; exact hP9, va_K.moved hW.alike hK, hD9⟩, hS.F ht⟩) hS.2.2 dX3_canTell_48
set_option maxHeartbeats 4000000 in
set_option maxRecDepth 100000 in
theorem c_X3_timesOf_t1_0 (l : Launch) (dC : Nat → ClassId) (dI : Nat → Nat → Nat) (cB cI cJ : ClassId) (sz : Nat) (xHan hH hR hT hM : Nat) : Met l yX3_timesOf wsX3_timesOf ({ frames := 1, cells := 0, slots := 0, locals := 24 }) (va_Pc [.ref xHan, .int 0] (fun U => U.heap.size = sz ∧ va_P (dC, dI) vwCl [(xHan, .inr (3, [.int 0, .int 1, .int 1, .ref hH, .ref hR, .ref hT, .ref hM])), (hM, .inl (cJ, 6, (.inr (.inl (vp_updL (fun _ => 0) (0 : Int32).toNatClampNeg 1)))))] U.heap ∧ va_K (dC, dI) vwCl [(cB, .byte), (cI, .int), (cJ, .long)] U ∧ va_D (fun _ => True) [(xHan, .inr (3, [.int 0, .int 1, .int 1, .ref hH, .ref hR, .ref hT, .ref hM])), (hM, .inl (cJ, 6, (.inr (.inl (vp_updL (fun _ => 0) (0 : Int32).toNatClampNeg 1)))))])) (va_Qi (fun (r : Int32) (_ : Unit) => r = 1) (fun _ _ => True) (va_A [(xHan, .inr (3, [.int 0, .int 1, .int 1, .ref hH, .ref hR, .ref hT, .ref hM])), (hM, .inl (cJ, 6, (.inr (.inl (vp_updL (fun _ => 0) (0 : Int32).toNatClampNeg 1)))))] sz)) 0 0 (va_A [(xHan, .inr (3, [.int 0, .int 1, .int 1, .ref hH, .ref hR, .ref hT, .ref hM])), (hM, .inl (cJ, 6, (.inr (.inl (vp_updL (fun _ => 0) (0 : Int32).toNatClampNeg 1)))))] sz) := by
  refine Met.ofW (cc := cX3_timesOf) (maxL := 2) (ret := (some .int)) (by decide) rfl ?_
  intro p e s m args below meth c s₁ B hml hv
  obtain ⟨rfl, hsz, hP, hK, hD0⟩ := hv
  have hx := B.exec
  have hb := B.bytes
  have hr := B.returns
  have hts := atoms_spec (ws := wsX3_timesOf) B.pre
  have hown : s.vm.findClass RX3 = some m.cls := findClass_of_methodNamed B.named
  have hlocks := B.notSynchronized
  have hiX3 : ∀ w ∈ u_ws RX3 TX3 7, w ∈ wsX3_timesOf := by decide +kernel
  subst hsz
  have hD := hD0.self (sz := s.heap.size)
  generalize hAe : va_A [(xHan, .inr (3, [.int 0, .int 1, .int 1, .ref hH, .ref hR, .ref hT, .ref hM])), (hM, .inl (cJ, 6, (.inr (.inl (vp_updL (fun _ => 0) (0 : Int32).toNatClampNeg 1)))))] s.heap.size = A at hD ⊢
  have hA : ∀ q : Nat, s.heap.size ≤ q → A q := fun q h => by rw [← hAe]; exact Or.inr h
  have hS : va_S A s.heap s.heap [] := va_S.rf
  have hP : va_P (dC, dI) vwCl [(xHan, .inr (3, [.int 0, .int 1, .int 1, .ref hH, .ref hR, .ref hT, .ref hM])), (hM, .inl (cJ, 6, (.inr (.inl (vp_updL (fun _ => 0) (0 : Int32).toNatClampNeg 1)))))] s.heap := hP
  have hl := lv_entry ([.ref xHan, .int 0]) (n := 2) (Nat.le_of_ble_eq_true rfl)
  rw [lg_entry_eq]
  generalize (lg_sl ([.ref xHan, .int 0]) ++ List.replicate (2 - (lg_sl ([.ref xHan, .int 0])).length) Slot.unset).toArray = ls at hl ⊢
  have hl : lv_has ls 2 [(0, .ref xHan), (1, .int 0)] := hl
  refine lv_iload_n hx hb dX3_timesOf_0 rfl (lv_at hl 1 rfl) ?_
  refine lv_if_lt (tgt := 23) hx hb dX3_timesOf_1 (by decide) (fun c => absurd c (by decide)) (fun _ => ?_)
  refine lv_iload_n hx hb dX3_timesOf_4 rfl (lv_at hl 1 rfl) ?_
  refine lv_aload_n hx hb dX3_timesOf_5 rfl (lv_at hl 0 rfl) ?_
  refine va_get (D := (dC, dI)) (ci := 3) (v := .ref hM) (C := RX3) (T := TX3) (N := 7) hx hb hts hiX3 hown hK hP 0 rfl rfl 6 (by decide) (hts (.fieldLink RX3 22 "ScissorsTable$Hang" "times" "[J") (by decide +kernel)) (fun _ h9 => h9) rfl dX3_timesOf_6 ?_
  refine va_alen (v := 6) hx hb hK hP 1 2 rfl rfl rfl dX3_timesOf_9 ?_
  refine lv_icmp_ge (tgt := 23) hx hb dX3_timesOf_10 (by decide) (fun c => absurd c (by decide)) (fun _ => ?_)
  refine lv_aload_n hx hb dX3_timesOf_13 rfl (lv_at hl 0 rfl) ?_
  refine va_get (D := (dC, dI)) (ci := 3) (v := .ref hM) (C := RX3) (T := TX3) (N := 7) hx hb hts hiX3 hown hK hP 0 rfl rfl 6 (by decide) (hts (.fieldLink RX3 22 "ScissorsTable$Hang" "times" "[J") (by decide +kernel)) (fun _ h9 => h9) rfl dX3_timesOf_14 ?_
  refine lv_iload_n hx hb dX3_timesOf_17 rfl (lv_at hl 1 rfl) ?_
  refine va_lald hx hb hK hP 1 2 rfl rfl (by show ¬ (_ ∨ _); decide) dX3_timesOf_18 ?_
  refine lv_topl (fun x_1 ex_1 => ?_)
  obtain rfl : x_1 = 1 := ex_1.trans (by first | rfl | decide)
  refine lv_l2i (v := 1) hx hb dX3_timesOf_19 (by decide) ?_
  refine lv_goto (tgt := 24) hx hb dX3_timesOf_20 (by decide) ?_
  refine W.widen (k := 0) (n := 0) (Nat.le_of_ble_eq_true rfl) (Nat.le_of_ble_eq_true rfl) ?_
  exact W.iret (v := 1) hx hb hr (fun t ht hW => ⟨⟨1, (), rfl, rfl, trivial⟩, hS.F ht⟩) hS.2.2 dX3_timesOf_24
set_option maxHeartbeats 4000000 in
set_option maxRecDepth 100000 in
theorem c_X3_canTell_t2 (l : Launch) (dC : Nat → ClassId) (dI : Nat → Nat → Nat) (cB cI cJ : ClassId) (sz : Nat) (xHan hH hR hT hM : Nat) : Met l yX3_canTell wsX3_canTell ({ frames := 1, cells := 0, slots := 0, locals := 24 }) (va_Pc [.ref xHan] (fun U => U.heap.size = sz ∧ va_P (dC, dI) vwCl [(xHan, .inr (3, [.int 0, .int 2, .int 1, .ref hH, .ref hR, .ref hT, .ref hM])), (hM, .inl (cJ, 6, (.inr (.inl (vp_updL (fun _ => 0) (0 : Int32).toNatClampNeg 1)))))] U.heap ∧ va_K (dC, dI) vwCl [(cB, .byte), (cI, .int), (cJ, .long)] U ∧ va_D (fun _ => True) [(xHan, .inr (3, [.int 0, .int 2, .int 1, .ref hH, .ref hR, .ref hT, .ref hM])), (hM, .inl (cJ, 6, (.inr (.inl (vp_updL (fun _ => 0) (0 : Int32).toNatClampNeg 1)))))])) (va_Qi (fun (r : Int32) (_ : Unit) => r = 1) (fun _ t => va_P (dC, dI) vwCl [(xHan, .inr (3, [.int 0, .int 2, .int 1, .ref hH, .ref hR, .ref hT, .ref hM])), (hM, .inl (cJ, 6, (.inr (.inl (vp_updL (fun _ => 0) (0 : Int32).toNatClampNeg 1)))))] t.heap ∧ va_K (dC, dI) vwCl [(cB, .byte), (cI, .int), (cJ, .long)] t ∧ va_D (va_A [(xHan, .inr (3, [.int 0, .int 2, .int 1, .ref hH, .ref hR, .ref hT, .ref hM])), (hM, .inl (cJ, 6, (.inr (.inl (vp_updL (fun _ => 0) (0 : Int32).toNatClampNeg 1)))))] sz) [(xHan, .inr (3, [.int 0, .int 2, .int 1, .ref hH, .ref hR, .ref hT, .ref hM])), (hM, .inl (cJ, 6, (.inr (.inl (vp_updL (fun _ => 0) (0 : Int32).toNatClampNeg 1)))))]) (va_A [(xHan, .inr (3, [.int 0, .int 2, .int 1, .ref hH, .ref hR, .ref hT, .ref hM])), (hM, .inl (cJ, 6, (.inr (.inl (vp_updL (fun _ => 0) (0 : Int32).toNatClampNeg 1)))))] sz)) 0 0 (va_A [(xHan, .inr (3, [.int 0, .int 2, .int 1, .ref hH, .ref hR, .ref hT, .ref hM])), (hM, .inl (cJ, 6, (.inr (.inl (vp_updL (fun _ => 0) (0 : Int32).toNatClampNeg 1)))))] sz) := by
  refine Met.ofW (cc := cX3_canTell) (maxL := 2) (ret := (some .boolean)) (by decide) rfl ?_
  intro p e s m args below meth c s₁ B hml hv
  obtain ⟨rfl, hsz, hP, hK, hD0⟩ := hv
  have hx := B.exec
  have hb := B.bytes
  have hr := B.returns
  have hts := atoms_spec (ws := wsX3_canTell) B.pre
  have hown : s.vm.findClass RX3 = some m.cls := findClass_of_methodNamed B.named
  have hlocks := B.notSynchronized
  have hiX3 : ∀ w ∈ u_ws RX3 TX3 7, w ∈ wsX3_canTell := by decide +kernel
  subst hsz
  have hD := hD0.self (sz := s.heap.size)
  generalize hAe : va_A [(xHan, .inr (3, [.int 0, .int 2, .int 1, .ref hH, .ref hR, .ref hT, .ref hM])), (hM, .inl (cJ, 6, (.inr (.inl (vp_updL (fun _ => 0) (0 : Int32).toNatClampNeg 1)))))] s.heap.size = A at hD ⊢
  have hA : ∀ q : Nat, s.heap.size ≤ q → A q := fun q h => by rw [← hAe]; exact Or.inr h
  have hS : va_S A s.heap s.heap [] := va_S.rf
  have hP : va_P (dC, dI) vwCl [(xHan, .inr (3, [.int 0, .int 2, .int 1, .ref hH, .ref hR, .ref hT, .ref hM])), (hM, .inl (cJ, 6, (.inr (.inl (vp_updL (fun _ => 0) (0 : Int32).toNatClampNeg 1)))))] s.heap := hP
  have hl := lv_entry ([.ref xHan]) (n := 2) (Nat.le_of_ble_eq_true rfl)
  rw [lg_entry_eq]
  generalize (lg_sl ([.ref xHan]) ++ List.replicate (2 - (lg_sl ([.ref xHan])).length) Slot.unset).toArray = ls at hl ⊢
  have hl : lv_has ls 2 [(0, .ref xHan)] := hl
  refine lv_iconst (v := 0) hx hb dX3_canTell_0 (by decide) ?_
  refine lv_istore_n (lv' := [(1, .int 0), (0, .ref xHan)]) hx hb dX3_canTell_1 rfl hl (by decide) rfl (fun ls hl => ?_)
  refine lv_iload_n hx hb dX3_canTell_2 rfl (lv_at hl 0 rfl) ?_
  refine lv_aload_n hx hb dX3_canTell_3 rfl (lv_at hl 1 rfl) ?_
  refine va_get (D := (dC, dI)) (ci := 3) (v := .ref hM) (C := RX3) (T := TX3) (N := 7) hx hb hts hiX3 hown hK hP 0 rfl rfl 6 (by decide) (hts (.fieldLink RX3 22 "ScissorsTable$Hang" "times" "[J") (by decide +kernel)) (fun _ h9 => h9) rfl dX3_canTell_4 ?_
  refine va_alen (v := 6) hx hb hK hP 1 2 rfl rfl rfl dX3_canTell_7 ?_
  refine lv_icmp_ge (tgt := 44) hx hb dX3_canTell_8 (by decide) (fun c => absurd c (by decide)) (fun _ => ?_)
  refine lv_aload_n hx hb dX3_canTell_11 rfl (lv_at hl 1 rfl) ?_
  refine va_get (D := (dC, dI)) (ci := 3) (v := .int 1) (C := RX3) (T := TX3) (N := 7) hx hb hts hiX3 hown hK hP 0 rfl rfl 2 (by decide) (hts (.fieldLink RX3 32 "ScissorsTable$Hang" "related" "Z") (by decide +kernel)) (fun _ h9 => h9) rfl dX3_canTell_12 ?_
  refine lv_if_eq (tgt := 38) hx hb dX3_canTell_15 (by decide) (fun c => absurd c (by decide)) (fun _ => ?_)
  refine lv_aload_n hx hb dX3_canTell_18 rfl (lv_at hl 1 rfl) ?_
  refine va_get (D := (dC, dI)) (ci := 3) (v := .ref hM) (C := RX3) (T := TX3) (N := 7) hx hb hts hiX3 hown hK hP 0 rfl rfl 6 (by decide) (hts (.fieldLink RX3 22 "ScissorsTable$Hang" "times" "[J") (by decide +kernel)) (fun _ h9 => h9) rfl dX3_canTell_19 ?_
  refine lv_iload_n hx hb dX3_canTell_22 rfl (lv_at hl 0 rfl) ?_
  refine va_lald hx hb hK hP 1 2 rfl rfl (by show ¬ (_ ∨ _); decide) dX3_canTell_23 ?_
  refine lv_topl (fun x_1 ex_1 => ?_)
  obtain rfl : x_1 = 1 := ex_1.trans (by first | rfl | decide)
  refine lv_aload_n hx hb dX3_canTell_24 rfl (lv_at hl 1 rfl) ?_
  refine va_get (D := (dC, dI)) (ci := 3) (v := .ref hM) (C := RX3) (T := TX3) (N := 7) hx hb hts hiX3 hown hK hP 0 rfl rfl 6 (by decide) (hts (.fieldLink RX3 22 "ScissorsTable$Hang" "times" "[J") (by decide +kernel)) (fun _ h9 => h9) rfl dX3_canTell_25 ?_
  refine lv_iload_n hx hb dX3_canTell_28 rfl (lv_at hl 0 rfl) ?_
  refine va_lald hx hb hK hP 1 2 rfl rfl (by show ¬ (_ ∨ _); decide) dX3_canTell_29 ?_
  refine lv_topl (fun x_2 ex_2 => ?_)
  obtain rfl : x_2 = 1 := ex_2.trans (by first | rfl | decide)
  refine lv_l2i (v := 1) hx hb dX3_canTell_30 (by decide) ?_
  refine lv_i2l (v := 1) hx hb dX3_canTell_31 (by decide) ?_
  refine W.lcmp hx hb dX3_canTell_32 ?_
  refine lv_topi (fun x_3 ex_3 => ?_)
  obtain rfl : x_3 = 0 := ex_3.trans (by first | rfl | decide)
  refine lv_if_eq (tgt := 38) hx hb dX3_canTell_33 (by decide) (fun _ => ?_) (fun c => absurd (by decide) c)
  refine lv_iinc (v := 1) (lv' := [(1, .int 1), (0, .ref xHan)]) hx hb dX3_canTell_38 hl (k := 0) rfl (by decide) (by decide) rfl (fun ls hl => ?_)
  refine lv_goto (tgt := 2) hx hb dX3_canTell_41 (by decide) ?_
  refine lv_iload_n hx hb dX3_canTell_2 rfl (lv_at hl 0 rfl) ?_
  refine lv_aload_n hx hb dX3_canTell_3 rfl (lv_at hl 1 rfl) ?_
  refine va_get (D := (dC, dI)) (ci := 3) (v := .ref hM) (C := RX3) (T := TX3) (N := 7) hx hb hts hiX3 hown hK hP 0 rfl rfl 6 (by decide) (hts (.fieldLink RX3 22 "ScissorsTable$Hang" "times" "[J") (by decide +kernel)) (fun _ h9 => h9) rfl dX3_canTell_4 ?_
  refine va_alen (v := 6) hx hb hK hP 1 2 rfl rfl rfl dX3_canTell_7 ?_
  refine lv_icmp_ge (tgt := 44) hx hb dX3_canTell_8 (by decide) (fun c => absurd c (by decide)) (fun _ => ?_)
  refine lv_aload_n hx hb dX3_canTell_11 rfl (lv_at hl 1 rfl) ?_
  refine va_get (D := (dC, dI)) (ci := 3) (v := .int 1) (C := RX3) (T := TX3) (N := 7) hx hb hts hiX3 hown hK hP 0 rfl rfl 2 (by decide) (hts (.fieldLink RX3 32 "ScissorsTable$Hang" "related" "Z") (by decide +kernel)) (fun _ h9 => h9) rfl dX3_canTell_12 ?_
  refine lv_if_eq (tgt := 38) hx hb dX3_canTell_15 (by decide) (fun c => absurd c (by decide)) (fun _ => ?_)
  refine lv_aload_n hx hb dX3_canTell_18 rfl (lv_at hl 1 rfl) ?_
  refine va_get (D := (dC, dI)) (ci := 3) (v := .ref hM) (C := RX3) (T := TX3) (N := 7) hx hb hts hiX3 hown hK hP 0 rfl rfl 6 (by decide) (hts (.fieldLink RX3 22 "ScissorsTable$Hang" "times" "[J") (by decide +kernel)) (fun _ h9 => h9) rfl dX3_canTell_19 ?_
  refine lv_iload_n hx hb dX3_canTell_22 rfl (lv_at hl 0 rfl) ?_
  refine va_lald hx hb hK hP 1 2 rfl rfl (by show ¬ (_ ∨ _); decide) dX3_canTell_23 ?_
  refine lv_topl (fun x_4 ex_4 => ?_)
  obtain rfl : x_4 = 0 := ex_4.trans (by first | rfl | decide)
  refine lv_aload_n hx hb dX3_canTell_24 rfl (lv_at hl 1 rfl) ?_
  refine va_get (D := (dC, dI)) (ci := 3) (v := .ref hM) (C := RX3) (T := TX3) (N := 7) hx hb hts hiX3 hown hK hP 0 rfl rfl 6 (by decide) (hts (.fieldLink RX3 22 "ScissorsTable$Hang" "times" "[J") (by decide +kernel)) (fun _ h9 => h9) rfl dX3_canTell_25 ?_
  refine lv_iload_n hx hb dX3_canTell_28 rfl (lv_at hl 0 rfl) ?_
  refine va_lald hx hb hK hP 1 2 rfl rfl (by show ¬ (_ ∨ _); decide) dX3_canTell_29 ?_
  refine lv_topl (fun x_5 ex_5 => ?_)
  obtain rfl : x_5 = 0 := ex_5.trans (by first | rfl | decide)
  refine lv_l2i (v := 0) hx hb dX3_canTell_30 (by decide) ?_
  refine lv_i2l (v := 0) hx hb dX3_canTell_31 (by decide) ?_
  refine W.lcmp hx hb dX3_canTell_32 ?_
  refine lv_topi (fun x_6 ex_6 => ?_)
  obtain rfl : x_6 = 0 := ex_6.trans (by first | rfl | decide)
  refine lv_if_eq (tgt := 38) hx hb dX3_canTell_33 (by decide) (fun _ => ?_) (fun c => absurd (by decide) c)
  refine lv_iinc (v := 2) (lv' := [(1, .int 2), (0, .ref xHan)]) hx hb dX3_canTell_38 hl (k := 0) rfl (by decide) (by decide) rfl (fun ls hl => ?_)
  refine lv_goto (tgt := 2) hx hb dX3_canTell_41 (by decide) ?_
  refine lv_iload_n hx hb dX3_canTell_2 rfl (lv_at hl 0 rfl) ?_
  refine lv_aload_n hx hb dX3_canTell_3 rfl (lv_at hl 1 rfl) ?_
  refine va_get (D := (dC, dI)) (ci := 3) (v := .ref hM) (C := RX3) (T := TX3) (N := 7) hx hb hts hiX3 hown hK hP 0 rfl rfl 6 (by decide) (hts (.fieldLink RX3 22 "ScissorsTable$Hang" "times" "[J") (by decide +kernel)) (fun _ h9 => h9) rfl dX3_canTell_4 ?_
  refine va_alen (v := 6) hx hb hK hP 1 2 rfl rfl rfl dX3_canTell_7 ?_
  refine lv_icmp_ge (tgt := 44) hx hb dX3_canTell_8 (by decide) (fun c => absurd c (by decide)) (fun _ => ?_)
  refine lv_aload_n hx hb dX3_canTell_11 rfl (lv_at hl 1 rfl) ?_
  refine va_get (D := (dC, dI)) (ci := 3) (v := .int 1) (C := RX3) (T := TX3) (N := 7) hx hb hts hiX3 hown hK hP 0 rfl rfl 2 (by decide) (hts (.fieldLink RX3 32 "ScissorsTable$Hang" "related" "Z") (by decide +kernel)) (fun _ h9 => h9) rfl dX3_canTell_12 ?_
  refine lv_if_eq (tgt := 38) hx hb dX3_canTell_15 (by decide) (fun c => absurd c (by decide)) (fun _ => ?_)
  refine lv_aload_n hx hb dX3_canTell_18 rfl (lv_at hl 1 rfl) ?_
  refine va_get (D := (dC, dI)) (ci := 3) (v := .ref hM) (C := RX3) (T := TX3) (N := 7) hx hb hts hiX3 hown hK hP 0 rfl rfl 6 (by decide) (hts (.fieldLink RX3 22 "ScissorsTable$Hang" "times" "[J") (by decide +kernel)) (fun _ h9 => h9) rfl dX3_canTell_19 ?_
  refine lv_iload_n hx hb dX3_canTell_22 rfl (lv_at hl 0 rfl) ?_
  refine va_lald hx hb hK hP 1 2 rfl rfl (by show ¬ (_ ∨ _); decide) dX3_canTell_23 ?_
  refine lv_topl (fun x_7 ex_7 => ?_)
  obtain rfl : x_7 = 0 := ex_7.trans (by first | rfl | decide)
  refine lv_aload_n hx hb dX3_canTell_24 rfl (lv_at hl 1 rfl) ?_
  refine va_get (D := (dC, dI)) (ci := 3) (v := .ref hM) (C := RX3) (T := TX3) (N := 7) hx hb hts hiX3 hown hK hP 0 rfl rfl 6 (by decide) (hts (.fieldLink RX3 22 "ScissorsTable$Hang" "times" "[J") (by decide +kernel)) (fun _ h9 => h9) rfl dX3_canTell_25 ?_
  refine lv_iload_n hx hb dX3_canTell_28 rfl (lv_at hl 0 rfl) ?_
  refine va_lald hx hb hK hP 1 2 rfl rfl (by show ¬ (_ ∨ _); decide) dX3_canTell_29 ?_
  refine lv_topl (fun x_8 ex_8 => ?_)
  obtain rfl : x_8 = 0 := ex_8.trans (by first | rfl | decide)
  refine lv_l2i (v := 0) hx hb dX3_canTell_30 (by decide) ?_
  refine lv_i2l (v := 0) hx hb dX3_canTell_31 (by decide) ?_
  refine W.lcmp hx hb dX3_canTell_32 ?_
  refine lv_topi (fun x_9 ex_9 => ?_)
  obtain rfl : x_9 = 0 := ex_9.trans (by first | rfl | decide)
  refine lv_if_eq (tgt := 38) hx hb dX3_canTell_33 (by decide) (fun _ => ?_) (fun c => absurd (by decide) c)
  refine lv_iinc (v := 3) (lv' := [(1, .int 3), (0, .ref xHan)]) hx hb dX3_canTell_38 hl (k := 0) rfl (by decide) (by decide) rfl (fun ls hl => ?_)
  refine lv_goto (tgt := 2) hx hb dX3_canTell_41 (by decide) ?_
  refine lv_iload_n hx hb dX3_canTell_2 rfl (lv_at hl 0 rfl) ?_
  refine lv_aload_n hx hb dX3_canTell_3 rfl (lv_at hl 1 rfl) ?_
  refine va_get (D := (dC, dI)) (ci := 3) (v := .ref hM) (C := RX3) (T := TX3) (N := 7) hx hb hts hiX3 hown hK hP 0 rfl rfl 6 (by decide) (hts (.fieldLink RX3 22 "ScissorsTable$Hang" "times" "[J") (by decide +kernel)) (fun _ h9 => h9) rfl dX3_canTell_4 ?_
  refine va_alen (v := 6) hx hb hK hP 1 2 rfl rfl rfl dX3_canTell_7 ?_
  refine lv_icmp_ge (tgt := 44) hx hb dX3_canTell_8 (by decide) (fun c => absurd c (by decide)) (fun _ => ?_)
  refine lv_aload_n hx hb dX3_canTell_11 rfl (lv_at hl 1 rfl) ?_
  refine va_get (D := (dC, dI)) (ci := 3) (v := .int 1) (C := RX3) (T := TX3) (N := 7) hx hb hts hiX3 hown hK hP 0 rfl rfl 2 (by decide) (hts (.fieldLink RX3 32 "ScissorsTable$Hang" "related" "Z") (by decide +kernel)) (fun _ h9 => h9) rfl dX3_canTell_12 ?_
  refine lv_if_eq (tgt := 38) hx hb dX3_canTell_15 (by decide) (fun c => absurd c (by decide)) (fun _ => ?_)
  refine lv_aload_n hx hb dX3_canTell_18 rfl (lv_at hl 1 rfl) ?_
  refine va_get (D := (dC, dI)) (ci := 3) (v := .ref hM) (C := RX3) (T := TX3) (N := 7) hx hb hts hiX3 hown hK hP 0 rfl rfl 6 (by decide) (hts (.fieldLink RX3 22 "ScissorsTable$Hang" "times" "[J") (by decide +kernel)) (fun _ h9 => h9) rfl dX3_canTell_19 ?_
  refine lv_iload_n hx hb dX3_canTell_22 rfl (lv_at hl 0 rfl) ?_
  refine va_lald hx hb hK hP 1 2 rfl rfl (by show ¬ (_ ∨ _); decide) dX3_canTell_23 ?_
  refine lv_topl (fun x_10 ex_10 => ?_)
  obtain rfl : x_10 = 0 := ex_10.trans (by first | rfl | decide)
  refine lv_aload_n hx hb dX3_canTell_24 rfl (lv_at hl 1 rfl) ?_
  refine va_get (D := (dC, dI)) (ci := 3) (v := .ref hM) (C := RX3) (T := TX3) (N := 7) hx hb hts hiX3 hown hK hP 0 rfl rfl 6 (by decide) (hts (.fieldLink RX3 22 "ScissorsTable$Hang" "times" "[J") (by decide +kernel)) (fun _ h9 => h9) rfl dX3_canTell_25 ?_
  refine lv_iload_n hx hb dX3_canTell_28 rfl (lv_at hl 0 rfl) ?_
  refine va_lald hx hb hK hP 1 2 rfl rfl (by show ¬ (_ ∨ _); decide) dX3_canTell_29 ?_
  refine lv_topl (fun x_11 ex_11 => ?_)
  obtain rfl : x_11 = 0 := ex_11.trans (by first | rfl | decide)
  refine lv_l2i (v := 0) hx hb dX3_canTell_30 (by decide) ?_
  refine lv_i2l (v := 0) hx hb dX3_canTell_31 (by decide) ?_
  refine W.lcmp hx hb dX3_canTell_32 ?_
  refine lv_topi (fun x_12 ex_12 => ?_)
  obtain rfl : x_12 = 0 := ex_12.trans (by first | rfl | decide)
  refine lv_if_eq (tgt := 38) hx hb dX3_canTell_33 (by decide) (fun _ => ?_) (fun c => absurd (by decide) c)
  refine lv_iinc (v := 4) (lv' := [(1, .int 4), (0, .ref xHan)]) hx hb dX3_canTell_38 hl (k := 0) rfl (by decide) (by decide) rfl (fun ls hl => ?_)
  refine lv_goto (tgt := 2) hx hb dX3_canTell_41 (by decide) ?_
  refine lv_iload_n hx hb dX3_canTell_2 rfl (lv_at hl 0 rfl) ?_
  refine lv_aload_n hx hb dX3_canTell_3 rfl (lv_at hl 1 rfl) ?_
  refine va_get (D := (dC, dI)) (ci := 3) (v := .ref hM) (C := RX3) (T := TX3) (N := 7) hx hb hts hiX3 hown hK hP 0 rfl rfl 6 (by decide) (hts (.fieldLink RX3 22 "ScissorsTable$Hang" "times" "[J") (by decide +kernel)) (fun _ h9 => h9) rfl dX3_canTell_4 ?_
  refine va_alen (v := 6) hx hb hK hP 1 2 rfl rfl rfl dX3_canTell_7 ?_
  refine lv_icmp_ge (tgt := 44) hx hb dX3_canTell_8 (by decide) (fun c => absurd c (by decide)) (fun _ => ?_)
  refine lv_aload_n hx hb dX3_canTell_11 rfl (lv_at hl 1 rfl) ?_
  refine va_get (D := (dC, dI)) (ci := 3) (v := .int 1) (C := RX3) (T := TX3) (N := 7) hx hb hts hiX3 hown hK hP 0 rfl rfl 2 (by decide) (hts (.fieldLink RX3 32 "ScissorsTable$Hang" "related" "Z") (by decide +kernel)) (fun _ h9 => h9) rfl dX3_canTell_12 ?_
  refine lv_if_eq (tgt := 38) hx hb dX3_canTell_15 (by decide) (fun c => absurd c (by decide)) (fun _ => ?_)
  refine lv_aload_n hx hb dX3_canTell_18 rfl (lv_at hl 1 rfl) ?_
  refine va_get (D := (dC, dI)) (ci := 3) (v := .ref hM) (C := RX3) (T := TX3) (N := 7) hx hb hts hiX3 hown hK hP 0 rfl rfl 6 (by decide) (hts (.fieldLink RX3 22 "ScissorsTable$Hang" "times" "[J") (by decide +kernel)) (fun _ h9 => h9) rfl dX3_canTell_19 ?_
  refine lv_iload_n hx hb dX3_canTell_22 rfl (lv_at hl 0 rfl) ?_
  refine va_lald hx hb hK hP 1 2 rfl rfl (by show ¬ (_ ∨ _); decide) dX3_canTell_23 ?_
  refine lv_topl (fun x_13 ex_13 => ?_)
  obtain rfl : x_13 = 0 := ex_13.trans (by first | rfl | decide)
  refine lv_aload_n hx hb dX3_canTell_24 rfl (lv_at hl 1 rfl) ?_
  refine va_get (D := (dC, dI)) (ci := 3) (v := .ref hM) (C := RX3) (T := TX3) (N := 7) hx hb hts hiX3 hown hK hP 0 rfl rfl 6 (by decide) (hts (.fieldLink RX3 22 "ScissorsTable$Hang" "times" "[J") (by decide +kernel)) (fun _ h9 => h9) rfl dX3_canTell_25 ?_
  refine lv_iload_n hx hb dX3_canTell_28 rfl (lv_at hl 0 rfl) ?_
  refine va_lald hx hb hK hP 1 2 rfl rfl (by show ¬ (_ ∨ _); decide) dX3_canTell_29 ?_
  refine lv_topl (fun x_14 ex_14 => ?_)
  obtain rfl : x_14 = 0 := ex_14.trans (by first | rfl | decide)
  refine lv_l2i (v := 0) hx hb dX3_canTell_30 (by decide) ?_
  refine lv_i2l (v := 0) hx hb dX3_canTell_31 (by decide) ?_
  refine W.lcmp hx hb dX3_canTell_32 ?_
  refine lv_topi (fun x_15 ex_15 => ?_)
  obtain rfl : x_15 = 0 := ex_15.trans (by first | rfl | decide)
  refine lv_if_eq (tgt := 38) hx hb dX3_canTell_33 (by decide) (fun _ => ?_) (fun c => absurd (by decide) c)
  refine lv_iinc (v := 5) (lv' := [(1, .int 5), (0, .ref xHan)]) hx hb dX3_canTell_38 hl (k := 0) rfl (by decide) (by decide) rfl (fun ls hl => ?_)
  refine lv_goto (tgt := 2) hx hb dX3_canTell_41 (by decide) ?_
  refine lv_iload_n hx hb dX3_canTell_2 rfl (lv_at hl 0 rfl) ?_
  refine lv_aload_n hx hb dX3_canTell_3 rfl (lv_at hl 1 rfl) ?_
  refine va_get (D := (dC, dI)) (ci := 3) (v := .ref hM) (C := RX3) (T := TX3) (N := 7) hx hb hts hiX3 hown hK hP 0 rfl rfl 6 (by decide) (hts (.fieldLink RX3 22 "ScissorsTable$Hang" "times" "[J") (by decide +kernel)) (fun _ h9 => h9) rfl dX3_canTell_4 ?_
  refine va_alen (v := 6) hx hb hK hP 1 2 rfl rfl rfl dX3_canTell_7 ?_
  refine lv_icmp_ge (tgt := 44) hx hb dX3_canTell_8 (by decide) (fun c => absurd c (by decide)) (fun _ => ?_)
  refine lv_aload_n hx hb dX3_canTell_11 rfl (lv_at hl 1 rfl) ?_
  refine va_get (D := (dC, dI)) (ci := 3) (v := .int 1) (C := RX3) (T := TX3) (N := 7) hx hb hts hiX3 hown hK hP 0 rfl rfl 2 (by decide) (hts (.fieldLink RX3 32 "ScissorsTable$Hang" "related" "Z") (by decide +kernel)) (fun _ h9 => h9) rfl dX3_canTell_12 ?_
  refine lv_if_eq (tgt := 38) hx hb dX3_canTell_15 (by decide) (fun c => absurd c (by decide)) (fun _ => ?_)
  refine lv_aload_n hx hb dX3_canTell_18 rfl (lv_at hl 1 rfl) ?_
  refine va_get (D := (dC, dI)) (ci := 3) (v := .ref hM) (C := RX3) (T := TX3) (N := 7) hx hb hts hiX3 hown hK hP 0 rfl rfl 6 (by decide) (hts (.fieldLink RX3 22 "ScissorsTable$Hang" "times" "[J") (by decide +kernel)) (fun _ h9 => h9) rfl dX3_canTell_19 ?_
  refine lv_iload_n hx hb dX3_canTell_22 rfl (lv_at hl 0 rfl) ?_
  refine va_lald hx hb hK hP 1 2 rfl rfl (by show ¬ (_ ∨ _); decide) dX3_canTell_23 ?_
  refine lv_topl (fun x_16 ex_16 => ?_)
  obtain rfl : x_16 = 0 := ex_16.trans (by first | rfl | decide)
  refine lv_aload_n hx hb dX3_canTell_24 rfl (lv_at hl 1 rfl) ?_
  refine va_get (D := (dC, dI)) (ci := 3) (v := .ref hM) (C := RX3) (T := TX3) (N := 7) hx hb hts hiX3 hown hK hP 0 rfl rfl 6 (by decide) (hts (.fieldLink RX3 22 "ScissorsTable$Hang" "times" "[J") (by decide +kernel)) (fun _ h9 => h9) rfl dX3_canTell_25 ?_
  refine lv_iload_n hx hb dX3_canTell_28 rfl (lv_at hl 0 rfl) ?_
  refine va_lald hx hb hK hP 1 2 rfl rfl (by show ¬ (_ ∨ _); decide) dX3_canTell_29 ?_
  refine lv_topl (fun x_17 ex_17 => ?_)
  obtain rfl : x_17 = 0 := ex_17.trans (by first | rfl | decide)
  refine lv_l2i (v := 0) hx hb dX3_canTell_30 (by decide) ?_
  refine lv_i2l (v := 0) hx hb dX3_canTell_31 (by decide) ?_
  refine W.lcmp hx hb dX3_canTell_32 ?_
  refine lv_topi (fun x_18 ex_18 => ?_)
  obtain rfl : x_18 = 0 := ex_18.trans (by first | rfl | decide)
  refine lv_if_eq (tgt := 38) hx hb dX3_canTell_33 (by decide) (fun _ => ?_) (fun c => absurd (by decide) c)
  refine lv_iinc (v := 6) (lv' := [(1, .int 6), (0, .ref xHan)]) hx hb dX3_canTell_38 hl (k := 0) rfl (by decide) (by decide) rfl (fun ls hl => ?_)
  refine lv_goto (tgt := 2) hx hb dX3_canTell_41 (by decide) ?_
  refine lv_iload_n hx hb dX3_canTell_2 rfl (lv_at hl 0 rfl) ?_
  refine lv_aload_n hx hb dX3_canTell_3 rfl (lv_at hl 1 rfl) ?_
  refine va_get (D := (dC, dI)) (ci := 3) (v := .ref hM) (C := RX3) (T := TX3) (N := 7) hx hb hts hiX3 hown hK hP 0 rfl rfl 6 (by decide) (hts (.fieldLink RX3 22 "ScissorsTable$Hang" "times" "[J") (by decide +kernel)) (fun _ h9 => h9) rfl dX3_canTell_4 ?_
  refine va_alen (v := 6) hx hb hK hP 1 2 rfl rfl rfl dX3_canTell_7 ?_
  refine lv_icmp_ge (tgt := 44) hx hb dX3_canTell_8 (by decide) (fun _ => ?_) (fun c => absurd (by decide) c)
  refine lv_aload_n hx hb dX3_canTell_44 rfl (lv_at hl 1 rfl) ?_
  refine va_get (D := (dC, dI)) (ci := 3) (v := .int 1) (C := RX3) (T := TX3) (N := 7) hx hb hts hiX3 hown hK hP 0 rfl rfl 2 (by decide) (hts (.fieldLink RX3 32 "ScissorsTable$Hang" "related" "Z") (by decide +kernel)) (fun _ h9 => h9) rfl dX3_canTell_45 ?_
  have hP9 := hP.sub (ws' := [(xHan, .inr (3, [.int 0, .int 2, .int 1, .ref hH, .ref hR, .ref hT, .ref hM])), (hM, .inl (cJ, 6, (.inr (.inl (vp_updL (fun _ => 0) (0 : Int32).toNatClampNeg 1)))))]) [0, 1] rfl
  have hD9 := hD.sub (ws' := [(xHan, .inr (3, [.int 0, .int 2, .int 1, .ref hH, .ref hR, .ref hT, .ref hM])), (hM, .inl (cJ, 6, (.inr (.inl (vp_updL (fun _ => 0) (0 : Int32).toNatClampNeg 1)))))]) [0, 1] (by decide) rfl
  refine W.widen (k := 0) (n := 0) (Nat.le_of_ble_eq_true rfl) (Nat.le_of_ble_eq_true rfl) ?_
  exact W.zret (v := 1) hx hb hr (by decide) (fun t ht hW => ⟨⟨1, (), rfl, rfl, by rw [ht]; exact hP9, va_K.moved hW.alike hK, hD9⟩, hS.F ht⟩) hS.2.2 dX3_canTell_48
set_option maxHeartbeats 4000000 in
set_option maxRecDepth 100000 in
theorem c_X3_timesOf_t2_0 (l : Launch) (dC : Nat → ClassId) (dI : Nat → Nat → Nat) (cB cI cJ : ClassId) (sz : Nat) (xHan hH hR hT hM : Nat) : Met l yX3_timesOf wsX3_timesOf ({ frames := 1, cells := 0, slots := 0, locals := 24 }) (va_Pc [.ref xHan, .int 0] (fun U => U.heap.size = sz ∧ va_P (dC, dI) vwCl [(xHan, .inr (3, [.int 0, .int 2, .int 1, .ref hH, .ref hR, .ref hT, .ref hM])), (hM, .inl (cJ, 6, (.inr (.inl (vp_updL (fun _ => 0) (0 : Int32).toNatClampNeg 1)))))] U.heap ∧ va_K (dC, dI) vwCl [(cB, .byte), (cI, .int), (cJ, .long)] U ∧ va_D (fun _ => True) [(xHan, .inr (3, [.int 0, .int 2, .int 1, .ref hH, .ref hR, .ref hT, .ref hM])), (hM, .inl (cJ, 6, (.inr (.inl (vp_updL (fun _ => 0) (0 : Int32).toNatClampNeg 1)))))])) (va_Qi (fun (r : Int32) (_ : Unit) => r = 1) (fun _ _ => True) (va_A [(xHan, .inr (3, [.int 0, .int 2, .int 1, .ref hH, .ref hR, .ref hT, .ref hM])), (hM, .inl (cJ, 6, (.inr (.inl (vp_updL (fun _ => 0) (0 : Int32).toNatClampNeg 1)))))] sz)) 0 0 (va_A [(xHan, .inr (3, [.int 0, .int 2, .int 1, .ref hH, .ref hR, .ref hT, .ref hM])), (hM, .inl (cJ, 6, (.inr (.inl (vp_updL (fun _ => 0) (0 : Int32).toNatClampNeg 1)))))] sz) := by
  refine Met.ofW (cc := cX3_timesOf) (maxL := 2) (ret := (some .int)) (by decide) rfl ?_
  intro p e s m args below meth c s₁ B hml hv
  obtain ⟨rfl, hsz, hP, hK, hD0⟩ := hv
  have hx := B.exec
  have hb := B.bytes
  have hr := B.returns
  have hts := atoms_spec (ws := wsX3_timesOf) B.pre
  have hown : s.vm.findClass RX3 = some m.cls := findClass_of_methodNamed B.named
  have hlocks := B.notSynchronized
  have hiX3 : ∀ w ∈ u_ws RX3 TX3 7, w ∈ wsX3_timesOf := by decide +kernel
  subst hsz
  have hD := hD0.self (sz := s.heap.size)
  generalize hAe : va_A [(xHan, .inr (3, [.int 0, .int 2, .int 1, .ref hH, .ref hR, .ref hT, .ref hM])), (hM, .inl (cJ, 6, (.inr (.inl (vp_updL (fun _ => 0) (0 : Int32).toNatClampNeg 1)))))] s.heap.size = A at hD ⊢
  have hA : ∀ q : Nat, s.heap.size ≤ q → A q := fun q h => by rw [← hAe]; exact Or.inr h
  have hS : va_S A s.heap s.heap [] := va_S.rf
  have hP : va_P (dC, dI) vwCl [(xHan, .inr (3, [.int 0, .int 2, .int 1, .ref hH, .ref hR, .ref hT, .ref hM])), (hM, .inl (cJ, 6, (.inr (.inl (vp_updL (fun _ => 0) (0 : Int32).toNatClampNeg 1)))))] s.heap := hP
  have hl := lv_entry ([.ref xHan, .int 0]) (n := 2) (Nat.le_of_ble_eq_true rfl)
  rw [lg_entry_eq]
  generalize (lg_sl ([.ref xHan, .int 0]) ++ List.replicate (2 - (lg_sl ([.ref xHan, .int 0])).length) Slot.unset).toArray = ls at hl ⊢
  have hl : lv_has ls 2 [(0, .ref xHan), (1, .int 0)] := hl
  refine lv_iload_n hx hb dX3_timesOf_0 rfl (lv_at hl 1 rfl) ?_
  refine lv_if_lt (tgt := 23) hx hb dX3_timesOf_1 (by decide) (fun c => absurd c (by decide)) (fun _ => ?_)
  refine lv_iload_n hx hb dX3_timesOf_4 rfl (lv_at hl 1 rfl) ?_
  refine lv_aload_n hx hb dX3_timesOf_5 rfl (lv_at hl 0 rfl) ?_
  refine va_get (D := (dC, dI)) (ci := 3) (v := .ref hM) (C := RX3) (T := TX3) (N := 7) hx hb hts hiX3 hown hK hP 0 rfl rfl 6 (by decide) (hts (.fieldLink RX3 22 "ScissorsTable$Hang" "times" "[J") (by decide +kernel)) (fun _ h9 => h9) rfl dX3_timesOf_6 ?_
  refine va_alen (v := 6) hx hb hK hP 1 2 rfl rfl rfl dX3_timesOf_9 ?_
  refine lv_icmp_ge (tgt := 23) hx hb dX3_timesOf_10 (by decide) (fun c => absurd c (by decide)) (fun _ => ?_)
  refine lv_aload_n hx hb dX3_timesOf_13 rfl (lv_at hl 0 rfl) ?_
  refine va_get (D := (dC, dI)) (ci := 3) (v := .ref hM) (C := RX3) (T := TX3) (N := 7) hx hb hts hiX3 hown hK hP 0 rfl rfl 6 (by decide) (hts (.fieldLink RX3 22 "ScissorsTable$Hang" "times" "[J") (by decide +kernel)) (fun _ h9 => h9) rfl dX3_timesOf_14 ?_
  refine lv_iload_n hx hb dX3_timesOf_17 rfl (lv_at hl 1 rfl) ?_
  refine va_lald hx hb hK hP 1 2 rfl rfl (by show ¬ (_ ∨ _); decide) dX3_timesOf_18 ?_
  refine lv_topl (fun x_1 ex_1 => ?_)
  obtain rfl : x_1 = 1 := ex_1.trans (by first | rfl | decide)
  refine lv_l2i (v := 1) hx hb dX3_timesOf_19 (by decide) ?_
  refine lv_goto (tgt := 24) hx hb dX3_timesOf_20 (by decide) ?_
  refine W.widen (k := 0) (n := 0) (Nat.le_of_ble_eq_true rfl) (Nat.le_of_ble_eq_true rfl) ?_
  exact W.iret (v := 1) hx hb hr (fun t ht hW => ⟨⟨1, (), rfl, rfl, trivial⟩, hS.F ht⟩) hS.2.2 dX3_timesOf_24
set_option maxHeartbeats 4000000 in
set_option maxRecDepth 100000 in
theorem c_X3_timesOf_t2_1 (l : Launch) (dC : Nat → ClassId) (dI : Nat → Nat → Nat) (cB cI cJ : ClassId) (sz : Nat) (xHan hH hR hT hM : Nat) : Met l yX3_timesOf wsX3_timesOf ({ frames := 1, cells := 0, slots := 0, locals := 24 }) (va_Pc [.ref xHan, .int 1] (fun U => U.heap.size = sz ∧ va_P (dC, dI) vwCl [(xHan, .inr (3, [.int 0, .int 2, .int 1, .ref hH, .ref hR, .ref hT, .ref hM])), (hM, .inl (cJ, 6, (.inr (.inl (vp_updL (fun _ => 0) (0 : Int32).toNatClampNeg 1)))))] U.heap ∧ va_K (dC, dI) vwCl [(cB, .byte), (cI, .int), (cJ, .long)] U ∧ va_D (fun _ => True) [(xHan, .inr (3, [.int 0, .int 2, .int 1, .ref hH, .ref hR, .ref hT, .ref hM])), (hM, .inl (cJ, 6, (.inr (.inl (vp_updL (fun _ => 0) (0 : Int32).toNatClampNeg 1)))))])) (va_Qi (fun (r : Int32) (_ : Unit) => r = 0) (fun _ _ => True) (va_A [(xHan, .inr (3, [.int 0, .int 2, .int 1, .ref hH, .ref hR, .ref hT, .ref hM])), (hM, .inl (cJ, 6, (.inr (.inl (vp_updL (fun _ => 0) (0 : Int32).toNatClampNeg 1)))))] sz)) 0 0 (va_A [(xHan, .inr (3, [.int 0, .int 2, .int 1, .ref hH, .ref hR, .ref hT, .ref hM])), (hM, .inl (cJ, 6, (.inr (.inl (vp_updL (fun _ => 0) (0 : Int32).toNatClampNeg 1)))))] sz) := by
  refine Met.ofW (cc := cX3_timesOf) (maxL := 2) (ret := (some .int)) (by decide) rfl ?_
  intro p e s m args below meth c s₁ B hml hv
  obtain ⟨rfl, hsz, hP, hK, hD0⟩ := hv
  have hx := B.exec
  have hb := B.bytes
  have hr := B.returns
  have hts := atoms_spec (ws := wsX3_timesOf) B.pre
  have hown : s.vm.findClass RX3 = some m.cls := findClass_of_methodNamed B.named
  have hlocks := B.notSynchronized
  have hiX3 : ∀ w ∈ u_ws RX3 TX3 7, w ∈ wsX3_timesOf := by decide +kernel
  subst hsz
  have hD := hD0.self (sz := s.heap.size)
  generalize hAe : va_A [(xHan, .inr (3, [.int 0, .int 2, .int 1, .ref hH, .ref hR, .ref hT, .ref hM])), (hM, .inl (cJ, 6, (.inr (.inl (vp_updL (fun _ => 0) (0 : Int32).toNatClampNeg 1)))))] s.heap.size = A at hD ⊢
  have hA : ∀ q : Nat, s.heap.size ≤ q → A q := fun q h => by rw [← hAe]; exact Or.inr h
  have hS : va_S A s.heap s.heap [] := va_S.rf
  have hP : va_P (dC, dI) vwCl [(xHan, .inr (3, [.int 0, .int 2, .int 1, .ref hH, .ref hR, .ref hT, .ref hM])), (hM, .inl (cJ, 6, (.inr (.inl (vp_updL (fun _ => 0) (0 : Int32).toNatClampNeg 1)))))] s.heap := hP
  have hl := lv_entry ([.ref xHan, .int 1]) (n := 2) (Nat.le_of_ble_eq_true rfl)
  rw [lg_entry_eq]
  generalize (lg_sl ([.ref xHan, .int 1]) ++ List.replicate (2 - (lg_sl ([.ref xHan, .int 1])).length) Slot.unset).toArray = ls at hl ⊢
  have hl : lv_has ls 2 [(0, .ref xHan), (1, .int 1)] := hl
  refine lv_iload_n hx hb dX3_timesOf_0 rfl (lv_at hl 1 rfl) ?_
  refine lv_if_lt (tgt := 23) hx hb dX3_timesOf_1 (by decide) (fun c => absurd c (by decide)) (fun _ => ?_)
  refine lv_iload_n hx hb dX3_timesOf_4 rfl (lv_at hl 1 rfl) ?_
  refine lv_aload_n hx hb dX3_timesOf_5 rfl (lv_at hl 0 rfl) ?_
  refine va_get (D := (dC, dI)) (ci := 3) (v := .ref hM) (C := RX3) (T := TX3) (N := 7) hx hb hts hiX3 hown hK hP 0 rfl rfl 6 (by decide) (hts (.fieldLink RX3 22 "ScissorsTable$Hang" "times" "[J") (by decide +kernel)) (fun _ h9 => h9) rfl dX3_timesOf_6 ?_
  refine va_alen (v := 6) hx hb hK hP 1 2 rfl rfl rfl dX3_timesOf_9 ?_
  refine lv_icmp_ge (tgt := 23) hx hb dX3_timesOf_10 (by decide) (fun c => absurd c (by decide)) (fun _ => ?_)
  refine lv_aload_n hx hb dX3_timesOf_13 rfl (lv_at hl 0 rfl) ?_
  refine va_get (D := (dC, dI)) (ci := 3) (v := .ref hM) (C := RX3) (T := TX3) (N := 7) hx hb hts hiX3 hown hK hP 0 rfl rfl 6 (by decide) (hts (.fieldLink RX3 22 "ScissorsTable$Hang" "times" "[J") (by decide +kernel)) (fun _ h9 => h9) rfl dX3_timesOf_14 ?_
  refine lv_iload_n hx hb dX3_timesOf_17 rfl (lv_at hl 1 rfl) ?_
  refine va_lald hx hb hK hP 1 2 rfl rfl (by show ¬ (_ ∨ _); decide) dX3_timesOf_18 ?_
  refine lv_topl (fun x_1 ex_1 => ?_)
  obtain rfl : x_1 = 0 := ex_1.trans (by first | rfl | decide)
  refine lv_l2i (v := 0) hx hb dX3_timesOf_19 (by decide) ?_
  refine lv_goto (tgt := 24) hx hb dX3_timesOf_20 (by decide) ?_
  refine W.widen (k := 0) (n := 0) (Nat.le_of_ble_eq_true rfl) (Nat.le_of_ble_eq_true rfl) ?_
  exact W.iret (v := 0) hx hb hr (fun t ht hW => ⟨⟨0, (), rfl, rfl, trivial⟩, hS.F ht⟩) hS.2.2 dX3_timesOf_24
set_option maxHeartbeats 4000000 in
set_option maxRecDepth 100000 in
theorem c_X3_canTell_t3 (l : Launch) (dC : Nat → ClassId) (dI : Nat → Nat → Nat) (cB cI cJ : ClassId) (sz : Nat) (xHan hH hR hT hM : Nat) : Met l yX3_canTell wsX3_canTell ({ frames := 1, cells := 0, slots := 0, locals := 24 }) (va_Pc [.ref xHan] (fun U => U.heap.size = sz ∧ va_P (dC, dI) vwCl [(xHan, .inr (3, [.int 0, .int 3, .int 1, .ref hH, .ref hR, .ref hT, .ref hM])), (hM, .inl (cJ, 6, (.inr (.inl (vp_updL (fun _ => 0) (0 : Int32).toNatClampNeg 1)))))] U.heap ∧ va_K (dC, dI) vwCl [(cB, .byte), (cI, .int), (cJ, .long)] U ∧ va_D (fun _ => True) [(xHan, .inr (3, [.int 0, .int 3, .int 1, .ref hH, .ref hR, .ref hT, .ref hM])), (hM, .inl (cJ, 6, (.inr (.inl (vp_updL (fun _ => 0) (0 : Int32).toNatClampNeg 1)))))])) (va_Qi (fun (r : Int32) (_ : Unit) => r = 1) (fun _ t => va_P (dC, dI) vwCl [(xHan, .inr (3, [.int 0, .int 3, .int 1, .ref hH, .ref hR, .ref hT, .ref hM])), (hM, .inl (cJ, 6, (.inr (.inl (vp_updL (fun _ => 0) (0 : Int32).toNatClampNeg 1)))))] t.heap ∧ va_K (dC, dI) vwCl [(cB, .byte), (cI, .int), (cJ, .long)] t ∧ va_D (va_A [(xHan, .inr (3, [.int 0, .int 3, .int 1, .ref hH, .ref hR, .ref hT, .ref hM])), (hM, .inl (cJ, 6, (.inr (.inl (vp_updL (fun _ => 0) (0 : Int32).toNatClampNeg 1)))))] sz) [(xHan, .inr (3, [.int 0, .int 3, .int 1, .ref hH, .ref hR, .ref hT, .ref hM])), (hM, .inl (cJ, 6, (.inr (.inl (vp_updL (fun _ => 0) (0 : Int32).toNatClampNeg 1)))))]) (va_A [(xHan, .inr (3, [.int 0, .int 3, .int 1, .ref hH, .ref hR, .ref hT, .ref hM])), (hM, .inl (cJ, 6, (.inr (.inl (vp_updL (fun _ => 0) (0 : Int32).toNatClampNeg 1)))))] sz)) 0 0 (va_A [(xHan, .inr (3, [.int 0, .int 3, .int 1, .ref hH, .ref hR, .ref hT, .ref hM])), (hM, .inl (cJ, 6, (.inr (.inl (vp_updL (fun _ => 0) (0 : Int32).toNatClampNeg 1)))))] sz) := by
  refine Met.ofW (cc := cX3_canTell) (maxL := 2) (ret := (some .boolean)) (by decide) rfl ?_
  intro p e s m args below meth c s₁ B hml hv
  obtain ⟨rfl, hsz, hP, hK, hD0⟩ := hv
  have hx := B.exec
  have hb := B.bytes
  have hr := B.returns
  have hts := atoms_spec (ws := wsX3_canTell) B.pre
  have hown : s.vm.findClass RX3 = some m.cls := findClass_of_methodNamed B.named
  have hlocks := B.notSynchronized
  have hiX3 : ∀ w ∈ u_ws RX3 TX3 7, w ∈ wsX3_canTell := by decide +kernel
  subst hsz
  have hD := hD0.self (sz := s.heap.size)
  generalize hAe : va_A [(xHan, .inr (3, [.int 0, .int 3, .int 1, .ref hH, .ref hR, .ref hT, .ref hM])), (hM, .inl (cJ, 6, (.inr (.inl (vp_updL (fun _ => 0) (0 : Int32).toNatClampNeg 1)))))] s.heap.size = A at hD ⊢
  have hA : ∀ q : Nat, s.heap.size ≤ q → A q := fun q h => by rw [← hAe]; exact Or.inr h
  have hS : va_S A s.heap s.heap [] := va_S.rf
  have hP : va_P (dC, dI) vwCl [(xHan, .inr (3, [.int 0, .int 3, .int 1, .ref hH, .ref hR, .ref hT, .ref hM])), (hM, .inl (cJ, 6, (.inr (.inl (vp_updL (fun _ => 0) (0 : Int32).toNatClampNeg 1)))))] s.heap := hP
  have hl := lv_entry ([.ref xHan]) (n := 2) (Nat.le_of_ble_eq_true rfl)
  rw [lg_entry_eq]
  generalize (lg_sl ([.ref xHan]) ++ List.replicate (2 - (lg_sl ([.ref xHan])).length) Slot.unset).toArray = ls at hl ⊢
  have hl : lv_has ls 2 [(0, .ref xHan)] := hl
  refine lv_iconst (v := 0) hx hb dX3_canTell_0 (by decide) ?_
  refine lv_istore_n (lv' := [(1, .int 0), (0, .ref xHan)]) hx hb dX3_canTell_1 rfl hl (by decide) rfl (fun ls hl => ?_)
  refine lv_iload_n hx hb dX3_canTell_2 rfl (lv_at hl 0 rfl) ?_
  refine lv_aload_n hx hb dX3_canTell_3 rfl (lv_at hl 1 rfl) ?_
  refine va_get (D := (dC, dI)) (ci := 3) (v := .ref hM) (C := RX3) (T := TX3) (N := 7) hx hb hts hiX3 hown hK hP 0 rfl rfl 6 (by decide) (hts (.fieldLink RX3 22 "ScissorsTable$Hang" "times" "[J") (by decide +kernel)) (fun _ h9 => h9) rfl dX3_canTell_4 ?_
  refine va_alen (v := 6) hx hb hK hP 1 2 rfl rfl rfl dX3_canTell_7 ?_
  refine lv_icmp_ge (tgt := 44) hx hb dX3_canTell_8 (by decide) (fun c => absurd c (by decide)) (fun _ => ?_)
  refine lv_aload_n hx hb dX3_canTell_11 rfl (lv_at hl 1 rfl) ?_
  refine va_get (D := (dC, dI)) (ci := 3) (v := .int 1) (C := RX3) (T := TX3) (N := 7) hx hb hts hiX3 hown hK hP 0 rfl rfl 2 (by decide) (hts (.fieldLink RX3 32 "ScissorsTable$Hang" "related" "Z") (by decide +kernel)) (fun _ h9 => h9) rfl dX3_canTell_12 ?_
  refine lv_if_eq (tgt := 38) hx hb dX3_canTell_15 (by decide) (fun c => absurd c (by decide)) (fun _ => ?_)
  refine lv_aload_n hx hb dX3_canTell_18 rfl (lv_at hl 1 rfl) ?_
  refine va_get (D := (dC, dI)) (ci := 3) (v := .ref hM) (C := RX3) (T := TX3) (N := 7) hx hb hts hiX3 hown hK hP 0 rfl rfl 6 (by decide) (hts (.fieldLink RX3 22 "ScissorsTable$Hang" "times" "[J") (by decide +kernel)) (fun _ h9 => h9) rfl dX3_canTell_19 ?_
  refine lv_iload_n hx hb dX3_canTell_22 rfl (lv_at hl 0 rfl) ?_
  refine va_lald hx hb hK hP 1 2 rfl rfl (by show ¬ (_ ∨ _); decide) dX3_canTell_23 ?_
  refine lv_topl (fun x_1 ex_1 => ?_)
  obtain rfl : x_1 = 1 := ex_1.trans (by first | rfl | decide)
  refine lv_aload_n hx hb dX3_canTell_24 rfl (lv_at hl 1 rfl) ?_
  refine va_get (D := (dC, dI)) (ci := 3) (v := .ref hM) (C := RX3) (T := TX3) (N := 7) hx hb hts hiX3 hown hK hP 0 rfl rfl 6 (by decide) (hts (.fieldLink RX3 22 "ScissorsTable$Hang" "times" "[J") (by decide +kernel)) (fun _ h9 => h9) rfl dX3_canTell_25 ?_
  refine lv_iload_n hx hb dX3_canTell_28 rfl (lv_at hl 0 rfl) ?_
  refine va_lald hx hb hK hP 1 2 rfl rfl (by show ¬ (_ ∨ _); decide) dX3_canTell_29 ?_
  refine lv_topl (fun x_2 ex_2 => ?_)
  obtain rfl : x_2 = 1 := ex_2.trans (by first | rfl | decide)
  refine lv_l2i (v := 1) hx hb dX3_canTell_30 (by decide) ?_
  refine lv_i2l (v := 1) hx hb dX3_canTell_31 (by decide) ?_
  refine W.lcmp hx hb dX3_canTell_32 ?_
  refine lv_topi (fun x_3 ex_3 => ?_)
  obtain rfl : x_3 = 0 := ex_3.trans (by first | rfl | decide)
  refine lv_if_eq (tgt := 38) hx hb dX3_canTell_33 (by decide) (fun _ => ?_) (fun c => absurd (by decide) c)
  refine lv_iinc (v := 1) (lv' := [(1, .int 1), (0, .ref xHan)]) hx hb dX3_canTell_38 hl (k := 0) rfl (by decide) (by decide) rfl (fun ls hl => ?_)
  refine lv_goto (tgt := 2) hx hb dX3_canTell_41 (by decide) ?_
  refine lv_iload_n hx hb dX3_canTell_2 rfl (lv_at hl 0 rfl) ?_
  refine lv_aload_n hx hb dX3_canTell_3 rfl (lv_at hl 1 rfl) ?_
  refine va_get (D := (dC, dI)) (ci := 3) (v := .ref hM) (C := RX3) (T := TX3) (N := 7) hx hb hts hiX3 hown hK hP 0 rfl rfl 6 (by decide) (hts (.fieldLink RX3 22 "ScissorsTable$Hang" "times" "[J") (by decide +kernel)) (fun _ h9 => h9) rfl dX3_canTell_4 ?_
  refine va_alen (v := 6) hx hb hK hP 1 2 rfl rfl rfl dX3_canTell_7 ?_
  refine lv_icmp_ge (tgt := 44) hx hb dX3_canTell_8 (by decide) (fun c => absurd c (by decide)) (fun _ => ?_)
  refine lv_aload_n hx hb dX3_canTell_11 rfl (lv_at hl 1 rfl) ?_
  refine va_get (D := (dC, dI)) (ci := 3) (v := .int 1) (C := RX3) (T := TX3) (N := 7) hx hb hts hiX3 hown hK hP 0 rfl rfl 2 (by decide) (hts (.fieldLink RX3 32 "ScissorsTable$Hang" "related" "Z") (by decide +kernel)) (fun _ h9 => h9) rfl dX3_canTell_12 ?_
  refine lv_if_eq (tgt := 38) hx hb dX3_canTell_15 (by decide) (fun c => absurd c (by decide)) (fun _ => ?_)
  refine lv_aload_n hx hb dX3_canTell_18 rfl (lv_at hl 1 rfl) ?_
  refine va_get (D := (dC, dI)) (ci := 3) (v := .ref hM) (C := RX3) (T := TX3) (N := 7) hx hb hts hiX3 hown hK hP 0 rfl rfl 6 (by decide) (hts (.fieldLink RX3 22 "ScissorsTable$Hang" "times" "[J") (by decide +kernel)) (fun _ h9 => h9) rfl dX3_canTell_19 ?_
  refine lv_iload_n hx hb dX3_canTell_22 rfl (lv_at hl 0 rfl) ?_
  refine va_lald hx hb hK hP 1 2 rfl rfl (by show ¬ (_ ∨ _); decide) dX3_canTell_23 ?_
  refine lv_topl (fun x_4 ex_4 => ?_)
  obtain rfl : x_4 = 0 := ex_4.trans (by first | rfl | decide)
  refine lv_aload_n hx hb dX3_canTell_24 rfl (lv_at hl 1 rfl) ?_
  refine va_get (D := (dC, dI)) (ci := 3) (v := .ref hM) (C := RX3) (T := TX3) (N := 7) hx hb hts hiX3 hown hK hP 0 rfl rfl 6 (by decide) (hts (.fieldLink RX3 22 "ScissorsTable$Hang" "times" "[J") (by decide +kernel)) (fun _ h9 => h9) rfl dX3_canTell_25 ?_
  refine lv_iload_n hx hb dX3_canTell_28 rfl (lv_at hl 0 rfl) ?_
  refine va_lald hx hb hK hP 1 2 rfl rfl (by show ¬ (_ ∨ _); decide) dX3_canTell_29 ?_
  refine lv_topl (fun x_5 ex_5 => ?_)
  obtain rfl : x_5 = 0 := ex_5.trans (by first | rfl | decide)
  refine lv_l2i (v := 0) hx hb dX3_canTell_30 (by decide) ?_
  refine lv_i2l (v := 0) hx hb dX3_canTell_31 (by decide) ?_
  refine W.lcmp hx hb dX3_canTell_32 ?_
  refine lv_topi (fun x_6 ex_6 => ?_)
  obtain rfl : x_6 = 0 := ex_6.trans (by first | rfl | decide)
  refine lv_if_eq (tgt := 38) hx hb dX3_canTell_33 (by decide) (fun _ => ?_) (fun c => absurd (by decide) c)
  refine lv_iinc (v := 2) (lv' := [(1, .int 2), (0, .ref xHan)]) hx hb dX3_canTell_38 hl (k := 0) rfl (by decide) (by decide) rfl (fun ls hl => ?_)
  refine lv_goto (tgt := 2) hx hb dX3_canTell_41 (by decide) ?_
  refine lv_iload_n hx hb dX3_canTell_2 rfl (lv_at hl 0 rfl) ?_
  refine lv_aload_n hx hb dX3_canTell_3 rfl (lv_at hl 1 rfl) ?_
  refine va_get (D := (dC, dI)) (ci := 3) (v := .ref hM) (C := RX3) (T := TX3) (N := 7) hx hb hts hiX3 hown hK hP 0 rfl rfl 6 (by decide) (hts (.fieldLink RX3 22 "ScissorsTable$Hang" "times" "[J") (by decide +kernel)) (fun _ h9 => h9) rfl dX3_canTell_4 ?_
  refine va_alen (v := 6) hx hb hK hP 1 2 rfl rfl rfl dX3_canTell_7 ?_
  refine lv_icmp_ge (tgt := 44) hx hb dX3_canTell_8 (by decide) (fun c => absurd c (by decide)) (fun _ => ?_)
  refine lv_aload_n hx hb dX3_canTell_11 rfl (lv_at hl 1 rfl) ?_
  refine va_get (D := (dC, dI)) (ci := 3) (v := .int 1) (C := RX3) (T := TX3) (N := 7) hx hb hts hiX3 hown hK hP 0 rfl rfl 2 (by decide) (hts (.fieldLink RX3 32 "ScissorsTable$Hang" "related" "Z") (by decide +kernel)) (fun _ h9 => h9) rfl dX3_canTell_12 ?_
  refine lv_if_eq (tgt := 38) hx hb dX3_canTell_15 (by decide) (fun c => absurd c (by decide)) (fun _ => ?_)
  refine lv_aload_n hx hb dX3_canTell_18 rfl (lv_at hl 1 rfl) ?_
  refine va_get (D := (dC, dI)) (ci := 3) (v := .ref hM) (C := RX3) (T := TX3) (N := 7) hx hb hts hiX3 hown hK hP 0 rfl rfl 6 (by decide) (hts (.fieldLink RX3 22 "ScissorsTable$Hang" "times" "[J") (by decide +kernel)) (fun _ h9 => h9) rfl dX3_canTell_19 ?_
  refine lv_iload_n hx hb dX3_canTell_22 rfl (lv_at hl 0 rfl) ?_
  refine va_lald hx hb hK hP 1 2 rfl rfl (by show ¬ (_ ∨ _); decide) dX3_canTell_23 ?_
  refine lv_topl (fun x_7 ex_7 => ?_)
  obtain rfl : x_7 = 0 := ex_7.trans (by first | rfl | decide)
  refine lv_aload_n hx hb dX3_canTell_24 rfl (lv_at hl 1 rfl) ?_
  refine va_get (D := (dC, dI)) (ci := 3) (v := .ref hM) (C := RX3) (T := TX3) (N := 7) hx hb hts hiX3 hown hK hP 0 rfl rfl 6 (by decide) (hts (.fieldLink RX3 22 "ScissorsTable$Hang" "times" "[J") (by decide +kernel)) (fun _ h9 => h9) rfl dX3_canTell_25 ?_
  refine lv_iload_n hx hb dX3_canTell_28 rfl (lv_at hl 0 rfl) ?_
  refine va_lald hx hb hK hP 1 2 rfl rfl (by show ¬ (_ ∨ _); decide) dX3_canTell_29 ?_
  refine lv_topl (fun x_8 ex_8 => ?_)
  obtain rfl : x_8 = 0 := ex_8.trans (by first | rfl | decide)
  refine lv_l2i (v := 0) hx hb dX3_canTell_30 (by decide) ?_
  refine lv_i2l (v := 0) hx hb dX3_canTell_31 (by decide) ?_
  refine W.lcmp hx hb dX3_canTell_32 ?_
  refine lv_topi (fun x_9 ex_9 => ?_)
  obtain rfl : x_9 = 0 := ex_9.trans (by first | rfl | decide)
  refine lv_if_eq (tgt := 38) hx hb dX3_canTell_33 (by decide) (fun _ => ?_) (fun c => absurd (by decide) c)
  refine lv_iinc (v := 3) (lv' := [(1, .int 3), (0, .ref xHan)]) hx hb dX3_canTell_38 hl (k := 0) rfl (by decide) (by decide) rfl (fun ls hl => ?_)
  refine lv_goto (tgt := 2) hx hb dX3_canTell_41 (by decide) ?_
  refine lv_iload_n hx hb dX3_canTell_2 rfl (lv_at hl 0 rfl) ?_
  refine lv_aload_n hx hb dX3_canTell_3 rfl (lv_at hl 1 rfl) ?_
  refine va_get (D := (dC, dI)) (ci := 3) (v := .ref hM) (C := RX3) (T := TX3) (N := 7) hx hb hts hiX3 hown hK hP 0 rfl rfl 6 (by decide) (hts (.fieldLink RX3 22 "ScissorsTable$Hang" "times" "[J") (by decide +kernel)) (fun _ h9 => h9) rfl dX3_canTell_4 ?_
  refine va_alen (v := 6) hx hb hK hP 1 2 rfl rfl rfl dX3_canTell_7 ?_
  refine lv_icmp_ge (tgt := 44) hx hb dX3_canTell_8 (by decide) (fun c => absurd c (by decide)) (fun _ => ?_)
  refine lv_aload_n hx hb dX3_canTell_11 rfl (lv_at hl 1 rfl) ?_
  refine va_get (D := (dC, dI)) (ci := 3) (v := .int 1) (C := RX3) (T := TX3) (N := 7) hx hb hts hiX3 hown hK hP 0 rfl rfl 2 (by decide) (hts (.fieldLink RX3 32 "ScissorsTable$Hang" "related" "Z") (by decide +kernel)) (fun _ h9 => h9) rfl dX3_canTell_12 ?_
  refine lv_if_eq (tgt := 38) hx hb dX3_canTell_15 (by decide) (fun c => absurd c (by decide)) (fun _ => ?_)
  refine lv_aload_n hx hb dX3_canTell_18 rfl (lv_at hl 1 rfl) ?_
  refine va_get (D := (dC, dI)) (ci := 3) (v := .ref hM) (C := RX3) (T := TX3) (N := 7) hx hb hts hiX3 hown hK hP 0 rfl rfl 6 (by decide) (hts (.fieldLink RX3 22 "ScissorsTable$Hang" "times" "[J") (by decide +kernel)) (fun _ h9 => h9) rfl dX3_canTell_19 ?_
  refine lv_iload_n hx hb dX3_canTell_22 rfl (lv_at hl 0 rfl) ?_
  refine va_lald hx hb hK hP 1 2 rfl rfl (by show ¬ (_ ∨ _); decide) dX3_canTell_23 ?_
  refine lv_topl (fun x_10 ex_10 => ?_)
  obtain rfl : x_10 = 0 := ex_10.trans (by first | rfl | decide)
  refine lv_aload_n hx hb dX3_canTell_24 rfl (lv_at hl 1 rfl) ?_
  refine va_get (D := (dC, dI)) (ci := 3) (v := .ref hM) (C := RX3) (T := TX3) (N := 7) hx hb hts hiX3 hown hK hP 0 rfl rfl 6 (by decide) (hts (.fieldLink RX3 22 "ScissorsTable$Hang" "times" "[J") (by decide +kernel)) (fun _ h9 => h9) rfl dX3_canTell_25 ?_
  refine lv_iload_n hx hb dX3_canTell_28 rfl (lv_at hl 0 rfl) ?_
  refine va_lald hx hb hK hP 1 2 rfl rfl (by show ¬ (_ ∨ _); decide) dX3_canTell_29 ?_
  refine lv_topl (fun x_11 ex_11 => ?_)
  obtain rfl : x_11 = 0 := ex_11.trans (by first | rfl | decide)
  refine lv_l2i (v := 0) hx hb dX3_canTell_30 (by decide) ?_
  refine lv_i2l (v := 0) hx hb dX3_canTell_31 (by decide) ?_
  refine W.lcmp hx hb dX3_canTell_32 ?_
  refine lv_topi (fun x_12 ex_12 => ?_)
  obtain rfl : x_12 = 0 := ex_12.trans (by first | rfl | decide)
  refine lv_if_eq (tgt := 38) hx hb dX3_canTell_33 (by decide) (fun _ => ?_) (fun c => absurd (by decide) c)
  refine lv_iinc (v := 4) (lv' := [(1, .int 4), (0, .ref xHan)]) hx hb dX3_canTell_38 hl (k := 0) rfl (by decide) (by decide) rfl (fun ls hl => ?_)
  refine lv_goto (tgt := 2) hx hb dX3_canTell_41 (by decide) ?_
  refine lv_iload_n hx hb dX3_canTell_2 rfl (lv_at hl 0 rfl) ?_
  refine lv_aload_n hx hb dX3_canTell_3 rfl (lv_at hl 1 rfl) ?_
  refine va_get (D := (dC, dI)) (ci := 3) (v := .ref hM) (C := RX3) (T := TX3) (N := 7) hx hb hts hiX3 hown hK hP 0 rfl rfl 6 (by decide) (hts (.fieldLink RX3 22 "ScissorsTable$Hang" "times" "[J") (by decide +kernel)) (fun _ h9 => h9) rfl dX3_canTell_4 ?_
  refine va_alen (v := 6) hx hb hK hP 1 2 rfl rfl rfl dX3_canTell_7 ?_
  refine lv_icmp_ge (tgt := 44) hx hb dX3_canTell_8 (by decide) (fun c => absurd c (by decide)) (fun _ => ?_)
  refine lv_aload_n hx hb dX3_canTell_11 rfl (lv_at hl 1 rfl) ?_
  refine va_get (D := (dC, dI)) (ci := 3) (v := .int 1) (C := RX3) (T := TX3) (N := 7) hx hb hts hiX3 hown hK hP 0 rfl rfl 2 (by decide) (hts (.fieldLink RX3 32 "ScissorsTable$Hang" "related" "Z") (by decide +kernel)) (fun _ h9 => h9) rfl dX3_canTell_12 ?_
  refine lv_if_eq (tgt := 38) hx hb dX3_canTell_15 (by decide) (fun c => absurd c (by decide)) (fun _ => ?_)
  refine lv_aload_n hx hb dX3_canTell_18 rfl (lv_at hl 1 rfl) ?_
  refine va_get (D := (dC, dI)) (ci := 3) (v := .ref hM) (C := RX3) (T := TX3) (N := 7) hx hb hts hiX3 hown hK hP 0 rfl rfl 6 (by decide) (hts (.fieldLink RX3 22 "ScissorsTable$Hang" "times" "[J") (by decide +kernel)) (fun _ h9 => h9) rfl dX3_canTell_19 ?_
  refine lv_iload_n hx hb dX3_canTell_22 rfl (lv_at hl 0 rfl) ?_
  refine va_lald hx hb hK hP 1 2 rfl rfl (by show ¬ (_ ∨ _); decide) dX3_canTell_23 ?_
  refine lv_topl (fun x_13 ex_13 => ?_)
  obtain rfl : x_13 = 0 := ex_13.trans (by first | rfl | decide)
  refine lv_aload_n hx hb dX3_canTell_24 rfl (lv_at hl 1 rfl) ?_
  refine va_get (D := (dC, dI)) (ci := 3) (v := .ref hM) (C := RX3) (T := TX3) (N := 7) hx hb hts hiX3 hown hK hP 0 rfl rfl 6 (by decide) (hts (.fieldLink RX3 22 "ScissorsTable$Hang" "times" "[J") (by decide +kernel)) (fun _ h9 => h9) rfl dX3_canTell_25 ?_
  refine lv_iload_n hx hb dX3_canTell_28 rfl (lv_at hl 0 rfl) ?_
  refine va_lald hx hb hK hP 1 2 rfl rfl (by show ¬ (_ ∨ _); decide) dX3_canTell_29 ?_
  refine lv_topl (fun x_14 ex_14 => ?_)
  obtain rfl : x_14 = 0 := ex_14.trans (by first | rfl | decide)
  refine lv_l2i (v := 0) hx hb dX3_canTell_30 (by decide) ?_
  refine lv_i2l (v := 0) hx hb dX3_canTell_31 (by decide) ?_
  refine W.lcmp hx hb dX3_canTell_32 ?_
  refine lv_topi (fun x_15 ex_15 => ?_)
  obtain rfl : x_15 = 0 := ex_15.trans (by first | rfl | decide)
  refine lv_if_eq (tgt := 38) hx hb dX3_canTell_33 (by decide) (fun _ => ?_) (fun c => absurd (by decide) c)
  refine lv_iinc (v := 5) (lv' := [(1, .int 5), (0, .ref xHan)]) hx hb dX3_canTell_38 hl (k := 0) rfl (by decide) (by decide) rfl (fun ls hl => ?_)
  refine lv_goto (tgt := 2) hx hb dX3_canTell_41 (by decide) ?_
  refine lv_iload_n hx hb dX3_canTell_2 rfl (lv_at hl 0 rfl) ?_
  refine lv_aload_n hx hb dX3_canTell_3 rfl (lv_at hl 1 rfl) ?_
  refine va_get (D := (dC, dI)) (ci := 3) (v := .ref hM) (C := RX3) (T := TX3) (N := 7) hx hb hts hiX3 hown hK hP 0 rfl rfl 6 (by decide) (hts (.fieldLink RX3 22 "ScissorsTable$Hang" "times" "[J") (by decide +kernel)) (fun _ h9 => h9) rfl dX3_canTell_4 ?_
  refine va_alen (v := 6) hx hb hK hP 1 2 rfl rfl rfl dX3_canTell_7 ?_
  refine lv_icmp_ge (tgt := 44) hx hb dX3_canTell_8 (by decide) (fun c => absurd c (by decide)) (fun _ => ?_)
  refine lv_aload_n hx hb dX3_canTell_11 rfl (lv_at hl 1 rfl) ?_
  refine va_get (D := (dC, dI)) (ci := 3) (v := .int 1) (C := RX3) (T := TX3) (N := 7) hx hb hts hiX3 hown hK hP 0 rfl rfl 2 (by decide) (hts (.fieldLink RX3 32 "ScissorsTable$Hang" "related" "Z") (by decide +kernel)) (fun _ h9 => h9) rfl dX3_canTell_12 ?_
  refine lv_if_eq (tgt := 38) hx hb dX3_canTell_15 (by decide) (fun c => absurd c (by decide)) (fun _ => ?_)
  refine lv_aload_n hx hb dX3_canTell_18 rfl (lv_at hl 1 rfl) ?_
  refine va_get (D := (dC, dI)) (ci := 3) (v := .ref hM) (C := RX3) (T := TX3) (N := 7) hx hb hts hiX3 hown hK hP 0 rfl rfl 6 (by decide) (hts (.fieldLink RX3 22 "ScissorsTable$Hang" "times" "[J") (by decide +kernel)) (fun _ h9 => h9) rfl dX3_canTell_19 ?_
  refine lv_iload_n hx hb dX3_canTell_22 rfl (lv_at hl 0 rfl) ?_
  refine va_lald hx hb hK hP 1 2 rfl rfl (by show ¬ (_ ∨ _); decide) dX3_canTell_23 ?_
  refine lv_topl (fun x_16 ex_16 => ?_)
  obtain rfl : x_16 = 0 := ex_16.trans (by first | rfl | decide)
  refine lv_aload_n hx hb dX3_canTell_24 rfl (lv_at hl 1 rfl) ?_
  refine va_get (D := (dC, dI)) (ci := 3) (v := .ref hM) (C := RX3) (T := TX3) (N := 7) hx hb hts hiX3 hown hK hP 0 rfl rfl 6 (by decide) (hts (.fieldLink RX3 22 "ScissorsTable$Hang" "times" "[J") (by decide +kernel)) (fun _ h9 => h9) rfl dX3_canTell_25 ?_
  refine lv_iload_n hx hb dX3_canTell_28 rfl (lv_at hl 0 rfl) ?_
  refine va_lald hx hb hK hP 1 2 rfl rfl (by show ¬ (_ ∨ _); decide) dX3_canTell_29 ?_
  refine lv_topl (fun x_17 ex_17 => ?_)
  obtain rfl : x_17 = 0 := ex_17.trans (by first | rfl | decide)
  refine lv_l2i (v := 0) hx hb dX3_canTell_30 (by decide) ?_
  refine lv_i2l (v := 0) hx hb dX3_canTell_31 (by decide) ?_
  refine W.lcmp hx hb dX3_canTell_32 ?_
  refine lv_topi (fun x_18 ex_18 => ?_)
  obtain rfl : x_18 = 0 := ex_18.trans (by first | rfl | decide)
  refine lv_if_eq (tgt := 38) hx hb dX3_canTell_33 (by decide) (fun _ => ?_) (fun c => absurd (by decide) c)
  refine lv_iinc (v := 6) (lv' := [(1, .int 6), (0, .ref xHan)]) hx hb dX3_canTell_38 hl (k := 0) rfl (by decide) (by decide) rfl (fun ls hl => ?_)
  refine lv_goto (tgt := 2) hx hb dX3_canTell_41 (by decide) ?_
  refine lv_iload_n hx hb dX3_canTell_2 rfl (lv_at hl 0 rfl) ?_
  refine lv_aload_n hx hb dX3_canTell_3 rfl (lv_at hl 1 rfl) ?_
  refine va_get (D := (dC, dI)) (ci := 3) (v := .ref hM) (C := RX3) (T := TX3) (N := 7) hx hb hts hiX3 hown hK hP 0 rfl rfl 6 (by decide) (hts (.fieldLink RX3 22 "ScissorsTable$Hang" "times" "[J") (by decide +kernel)) (fun _ h9 => h9) rfl dX3_canTell_4 ?_
  refine va_alen (v := 6) hx hb hK hP 1 2 rfl rfl rfl dX3_canTell_7 ?_
  refine lv_icmp_ge (tgt := 44) hx hb dX3_canTell_8 (by decide) (fun _ => ?_) (fun c => absurd (by decide) c)
  refine lv_aload_n hx hb dX3_canTell_44 rfl (lv_at hl 1 rfl) ?_
  refine va_get (D := (dC, dI)) (ci := 3) (v := .int 1) (C := RX3) (T := TX3) (N := 7) hx hb hts hiX3 hown hK hP 0 rfl rfl 2 (by decide) (hts (.fieldLink RX3 32 "ScissorsTable$Hang" "related" "Z") (by decide +kernel)) (fun _ h9 => h9) rfl dX3_canTell_45 ?_
  have hP9 := hP.sub (ws' := [(xHan, .inr (3, [.int 0, .int 3, .int 1, .ref hH, .ref hR, .ref hT, .ref hM])), (hM, .inl (cJ, 6, (.inr (.inl (vp_updL (fun _ => 0) (0 : Int32).toNatClampNeg 1)))))]) [0, 1] rfl
  have hD9 := hD.sub (ws' := [(xHan, .inr (3, [.int 0, .int 3, .int 1, .ref hH, .ref hR, .ref hT, .ref hM])), (hM, .inl (cJ, 6, (.inr (.inl (vp_updL (fun _ => 0) (0 : Int32).toNatClampNeg 1)))))]) [0, 1] (by decide) rfl
  refine W.widen (k := 0) (n := 0) (Nat.le_of_ble_eq_true rfl) (Nat.le_of_ble_eq_true rfl) ?_
  exact W.zret (v := 1) hx hb hr (by decide) (fun t ht hW => ⟨⟨1, (), rfl, rfl, by rw [ht]; exact hP9, va_K.moved hW.alike hK, hD9⟩, hS.F ht⟩) hS.2.2 dX3_canTell_48
set_option maxHeartbeats 4000000 in
set_option maxRecDepth 100000 in
theorem c_X3_timesOf_t3_0 (l : Launch) (dC : Nat → ClassId) (dI : Nat → Nat → Nat) (cB cI cJ : ClassId) (sz : Nat) (xHan hH hR hT hM : Nat) : Met l yX3_timesOf wsX3_timesOf ({ frames := 1, cells := 0, slots := 0, locals := 24 }) (va_Pc [.ref xHan, .int 0] (fun U => U.heap.size = sz ∧ va_P (dC, dI) vwCl [(xHan, .inr (3, [.int 0, .int 3, .int 1, .ref hH, .ref hR, .ref hT, .ref hM])), (hM, .inl (cJ, 6, (.inr (.inl (vp_updL (fun _ => 0) (0 : Int32).toNatClampNeg 1)))))] U.heap ∧ va_K (dC, dI) vwCl [(cB, .byte), (cI, .int), (cJ, .long)] U ∧ va_D (fun _ => True) [(xHan, .inr (3, [.int 0, .int 3, .int 1, .ref hH, .ref hR, .ref hT, .ref hM])), (hM, .inl (cJ, 6, (.inr (.inl (vp_updL (fun _ => 0) (0 : Int32).toNatClampNeg 1)))))])) (va_Qi (fun (r : Int32) (_ : Unit) => r = 1) (fun _ _ => True) (va_A [(xHan, .inr (3, [.int 0, .int 3, .int 1, .ref hH, .ref hR, .ref hT, .ref hM])), (hM, .inl (cJ, 6, (.inr (.inl (vp_updL (fun _ => 0) (0 : Int32).toNatClampNeg 1)))))] sz)) 0 0 (va_A [(xHan, .inr (3, [.int 0, .int 3, .int 1, .ref hH, .ref hR, .ref hT, .ref hM])), (hM, .inl (cJ, 6, (.inr (.inl (vp_updL (fun _ => 0) (0 : Int32).toNatClampNeg 1)))))] sz) := by
  refine Met.ofW (cc := cX3_timesOf) (maxL := 2) (ret := (some .int)) (by decide) rfl ?_
  intro p e s m args below meth c s₁ B hml hv
  obtain ⟨rfl, hsz, hP, hK, hD0⟩ := hv
  have hx := B.exec
  have hb := B.bytes
  have hr := B.returns
  have hts := atoms_spec (ws := wsX3_timesOf) B.pre
  have hown : s.vm.findClass RX3 = some m.cls := findClass_of_methodNamed B.named
  have hlocks := B.notSynchronized
  have hiX3 : ∀ w ∈ u_ws RX3 TX3 7, w ∈ wsX3_timesOf := by decide +kernel
  subst hsz
  have hD := hD0.self (sz := s.heap.size)
  generalize hAe : va_A [(xHan, .inr (3, [.int 0, .int 3, .int 1, .ref hH, .ref hR, .ref hT, .ref hM])), (hM, .inl (cJ, 6, (.inr (.inl (vp_updL (fun _ => 0) (0 : Int32).toNatClampNeg 1)))))] s.heap.size = A at hD ⊢
  have hA : ∀ q : Nat, s.heap.size ≤ q → A q := fun q h => by rw [← hAe]; exact Or.inr h
  have hS : va_S A s.heap s.heap [] := va_S.rf
  have hP : va_P (dC, dI) vwCl [(xHan, .inr (3, [.int 0, .int 3, .int 1, .ref hH, .ref hR, .ref hT, .ref hM])), (hM, .inl (cJ, 6, (.inr (.inl (vp_updL (fun _ => 0) (0 : Int32).toNatClampNeg 1)))))] s.heap := hP
  have hl := lv_entry ([.ref xHan, .int 0]) (n := 2) (Nat.le_of_ble_eq_true rfl)
  rw [lg_entry_eq]
  generalize (lg_sl ([.ref xHan, .int 0]) ++ List.replicate (2 - (lg_sl ([.ref xHan, .int 0])).length) Slot.unset).toArray = ls at hl ⊢
  have hl : lv_has ls 2 [(0, .ref xHan), (1, .int 0)] := hl
  refine lv_iload_n hx hb dX3_timesOf_0 rfl (lv_at hl 1 rfl) ?_
  refine lv_if_lt (tgt := 23) hx hb dX3_timesOf_1 (by decide) (fun c => absurd c (by decide)) (fun _ => ?_)
  refine lv_iload_n hx hb dX3_timesOf_4 rfl (lv_at hl 1 rfl) ?_
  refine lv_aload_n hx hb dX3_timesOf_5 rfl (lv_at hl 0 rfl) ?_
  refine va_get (D := (dC, dI)) (ci := 3) (v := .ref hM) (C := RX3) (T := TX3) (N := 7) hx hb hts hiX3 hown hK hP 0 rfl rfl 6 (by decide) (hts (.fieldLink RX3 22 "ScissorsTable$Hang" "times" "[J") (by decide +kernel)) (fun _ h9 => h9) rfl dX3_timesOf_6 ?_
  refine va_alen (v := 6) hx hb hK hP 1 2 rfl rfl rfl dX3_timesOf_9 ?_
  refine lv_icmp_ge (tgt := 23) hx hb dX3_timesOf_10 (by decide) (fun c => absurd c (by decide)) (fun _ => ?_)
  refine lv_aload_n hx hb dX3_timesOf_13 rfl (lv_at hl 0 rfl) ?_
  refine va_get (D := (dC, dI)) (ci := 3) (v := .ref hM) (C := RX3) (T := TX3) (N := 7) hx hb hts hiX3 hown hK hP 0 rfl rfl 6 (by decide) (hts (.fieldLink RX3 22 "ScissorsTable$Hang" "times" "[J") (by decide +kernel)) (fun _ h9 => h9) rfl dX3_timesOf_14 ?_
  refine lv_iload_n hx hb dX3_timesOf_17 rfl (lv_at hl 1 rfl) ?_
  refine va_lald hx hb hK hP 1 2 rfl rfl (by show ¬ (_ ∨ _); decide) dX3_timesOf_18 ?_
  refine lv_topl (fun x_1 ex_1 => ?_)
  obtain rfl : x_1 = 1 := ex_1.trans (by first | rfl | decide)
  refine lv_l2i (v := 1) hx hb dX3_timesOf_19 (by decide) ?_
  refine lv_goto (tgt := 24) hx hb dX3_timesOf_20 (by decide) ?_
  refine W.widen (k := 0) (n := 0) (Nat.le_of_ble_eq_true rfl) (Nat.le_of_ble_eq_true rfl) ?_
  exact W.iret (v := 1) hx hb hr (fun t ht hW => ⟨⟨1, (), rfl, rfl, trivial⟩, hS.F ht⟩) hS.2.2 dX3_timesOf_24
set_option maxHeartbeats 4000000 in
set_option maxRecDepth 100000 in
theorem c_X3_timesOf_t3_1 (l : Launch) (dC : Nat → ClassId) (dI : Nat → Nat → Nat) (cB cI cJ : ClassId) (sz : Nat) (xHan hH hR hT hM : Nat) : Met l yX3_timesOf wsX3_timesOf ({ frames := 1, cells := 0, slots := 0, locals := 24 }) (va_Pc [.ref xHan, .int 1] (fun U => U.heap.size = sz ∧ va_P (dC, dI) vwCl [(xHan, .inr (3, [.int 0, .int 3, .int 1, .ref hH, .ref hR, .ref hT, .ref hM])), (hM, .inl (cJ, 6, (.inr (.inl (vp_updL (fun _ => 0) (0 : Int32).toNatClampNeg 1)))))] U.heap ∧ va_K (dC, dI) vwCl [(cB, .byte), (cI, .int), (cJ, .long)] U ∧ va_D (fun _ => True) [(xHan, .inr (3, [.int 0, .int 3, .int 1, .ref hH, .ref hR, .ref hT, .ref hM])), (hM, .inl (cJ, 6, (.inr (.inl (vp_updL (fun _ => 0) (0 : Int32).toNatClampNeg 1)))))])) (va_Qi (fun (r : Int32) (_ : Unit) => r = 0) (fun _ _ => True) (va_A [(xHan, .inr (3, [.int 0, .int 3, .int 1, .ref hH, .ref hR, .ref hT, .ref hM])), (hM, .inl (cJ, 6, (.inr (.inl (vp_updL (fun _ => 0) (0 : Int32).toNatClampNeg 1)))))] sz)) 0 0 (va_A [(xHan, .inr (3, [.int 0, .int 3, .int 1, .ref hH, .ref hR, .ref hT, .ref hM])), (hM, .inl (cJ, 6, (.inr (.inl (vp_updL (fun _ => 0) (0 : Int32).toNatClampNeg 1)))))] sz) := by
  refine Met.ofW (cc := cX3_timesOf) (maxL := 2) (ret := (some .int)) (by decide) rfl ?_
  intro p e s m args below meth c s₁ B hml hv
  obtain ⟨rfl, hsz, hP, hK, hD0⟩ := hv
  have hx := B.exec
  have hb := B.bytes
  have hr := B.returns
  have hts := atoms_spec (ws := wsX3_timesOf) B.pre
  have hown : s.vm.findClass RX3 = some m.cls := findClass_of_methodNamed B.named
  have hlocks := B.notSynchronized
  have hiX3 : ∀ w ∈ u_ws RX3 TX3 7, w ∈ wsX3_timesOf := by decide +kernel
  subst hsz
  have hD := hD0.self (sz := s.heap.size)
  generalize hAe : va_A [(xHan, .inr (3, [.int 0, .int 3, .int 1, .ref hH, .ref hR, .ref hT, .ref hM])), (hM, .inl (cJ, 6, (.inr (.inl (vp_updL (fun _ => 0) (0 : Int32).toNatClampNeg 1)))))] s.heap.size = A at hD ⊢
  have hA : ∀ q : Nat, s.heap.size ≤ q → A q := fun q h => by rw [← hAe]; exact Or.inr h
  have hS : va_S A s.heap s.heap [] := va_S.rf
  have hP : va_P (dC, dI) vwCl [(xHan, .inr (3, [.int 0, .int 3, .int 1, .ref hH, .ref hR, .ref hT, .ref hM])), (hM, .inl (cJ, 6, (.inr (.inl (vp_updL (fun _ => 0) (0 : Int32).toNatClampNeg 1)))))] s.heap := hP
  have hl := lv_entry ([.ref xHan, .int 1]) (n := 2) (Nat.le_of_ble_eq_true rfl)
  rw [lg_entry_eq]
  generalize (lg_sl ([.ref xHan, .int 1]) ++ List.replicate (2 - (lg_sl ([.ref xHan, .int 1])).length) Slot.unset).toArray = ls at hl ⊢
  have hl : lv_has ls 2 [(0, .ref xHan), (1, .int 1)] := hl
  refine lv_iload_n hx hb dX3_timesOf_0 rfl (lv_at hl 1 rfl) ?_
  refine lv_if_lt (tgt := 23) hx hb dX3_timesOf_1 (by decide) (fun c => absurd c (by decide)) (fun _ => ?_)
  refine lv_iload_n hx hb dX3_timesOf_4 rfl (lv_at hl 1 rfl) ?_
  refine lv_aload_n hx hb dX3_timesOf_5 rfl (lv_at hl 0 rfl) ?_
  refine va_get (D := (dC, dI)) (ci := 3) (v := .ref hM) (C := RX3) (T := TX3) (N := 7) hx hb hts hiX3 hown hK hP 0 rfl rfl 6 (by decide) (hts (.fieldLink RX3 22 "ScissorsTable$Hang" "times" "[J") (by decide +kernel)) (fun _ h9 => h9) rfl dX3_timesOf_6 ?_
  refine va_alen (v := 6) hx hb hK hP 1 2 rfl rfl rfl dX3_timesOf_9 ?_
  refine lv_icmp_ge (tgt := 23) hx hb dX3_timesOf_10 (by decide) (fun c => absurd c (by decide)) (fun _ => ?_)
  refine lv_aload_n hx hb dX3_timesOf_13 rfl (lv_at hl 0 rfl) ?_
  refine va_get (D := (dC, dI)) (ci := 3) (v := .ref hM) (C := RX3) (T := TX3) (N := 7) hx hb hts hiX3 hown hK hP 0 rfl rfl 6 (by decide) (hts (.fieldLink RX3 22 "ScissorsTable$Hang" "times" "[J") (by decide +kernel)) (fun _ h9 => h9) rfl dX3_timesOf_14 ?_
  refine lv_iload_n hx hb dX3_timesOf_17 rfl (lv_at hl 1 rfl) ?_
  refine va_lald hx hb hK hP 1 2 rfl rfl (by show ¬ (_ ∨ _); decide) dX3_timesOf_18 ?_
  refine lv_topl (fun x_1 ex_1 => ?_)
  obtain rfl : x_1 = 0 := ex_1.trans (by first | rfl | decide)
  refine lv_l2i (v := 0) hx hb dX3_timesOf_19 (by decide) ?_
  refine lv_goto (tgt := 24) hx hb dX3_timesOf_20 (by decide) ?_
  refine W.widen (k := 0) (n := 0) (Nat.le_of_ble_eq_true rfl) (Nat.le_of_ble_eq_true rfl) ?_
  exact W.iret (v := 0) hx hb hr (fun t ht hW => ⟨⟨0, (), rfl, rfl, trivial⟩, hS.F ht⟩) hS.2.2 dX3_timesOf_24
set_option maxHeartbeats 4000000 in
set_option maxRecDepth 100000 in
theorem c_X3_timesOf_t3_2 (l : Launch) (dC : Nat → ClassId) (dI : Nat → Nat → Nat) (cB cI cJ : ClassId) (sz : Nat) (xHan hH hR hT hM : Nat) : Met l yX3_timesOf wsX3_timesOf ({ frames := 1, cells := 0, slots := 0, locals := 24 }) (va_Pc [.ref xHan, .int 2] (fun U => U.heap.size = sz ∧ va_P (dC, dI) vwCl [(xHan, .inr (3, [.int 0, .int 3, .int 1, .ref hH, .ref hR, .ref hT, .ref hM])), (hM, .inl (cJ, 6, (.inr (.inl (vp_updL (fun _ => 0) (0 : Int32).toNatClampNeg 1)))))] U.heap ∧ va_K (dC, dI) vwCl [(cB, .byte), (cI, .int), (cJ, .long)] U ∧ va_D (fun _ => True) [(xHan, .inr (3, [.int 0, .int 3, .int 1, .ref hH, .ref hR, .ref hT, .ref hM])), (hM, .inl (cJ, 6, (.inr (.inl (vp_updL (fun _ => 0) (0 : Int32).toNatClampNeg 1)))))])) (va_Qi (fun (r : Int32) (_ : Unit) => r = 0) (fun _ _ => True) (va_A [(xHan, .inr (3, [.int 0, .int 3, .int 1, .ref hH, .ref hR, .ref hT, .ref hM])), (hM, .inl (cJ, 6, (.inr (.inl (vp_updL (fun _ => 0) (0 : Int32).toNatClampNeg 1)))))] sz)) 0 0 (va_A [(xHan, .inr (3, [.int 0, .int 3, .int 1, .ref hH, .ref hR, .ref hT, .ref hM])), (hM, .inl (cJ, 6, (.inr (.inl (vp_updL (fun _ => 0) (0 : Int32).toNatClampNeg 1)))))] sz) := by
  refine Met.ofW (cc := cX3_timesOf) (maxL := 2) (ret := (some .int)) (by decide) rfl ?_
  intro p e s m args below meth c s₁ B hml hv
  obtain ⟨rfl, hsz, hP, hK, hD0⟩ := hv
  have hx := B.exec
  have hb := B.bytes
  have hr := B.returns
  have hts := atoms_spec (ws := wsX3_timesOf) B.pre
  have hown : s.vm.findClass RX3 = some m.cls := findClass_of_methodNamed B.named
  have hlocks := B.notSynchronized
  have hiX3 : ∀ w ∈ u_ws RX3 TX3 7, w ∈ wsX3_timesOf := by decide +kernel
  subst hsz
  have hD := hD0.self (sz := s.heap.size)
  generalize hAe : va_A [(xHan, .inr (3, [.int 0, .int 3, .int 1, .ref hH, .ref hR, .ref hT, .ref hM])), (hM, .inl (cJ, 6, (.inr (.inl (vp_updL (fun _ => 0) (0 : Int32).toNatClampNeg 1)))))] s.heap.size = A at hD ⊢
  have hA : ∀ q : Nat, s.heap.size ≤ q → A q := fun q h => by rw [← hAe]; exact Or.inr h
  have hS : va_S A s.heap s.heap [] := va_S.rf
  have hP : va_P (dC, dI) vwCl [(xHan, .inr (3, [.int 0, .int 3, .int 1, .ref hH, .ref hR, .ref hT, .ref hM])), (hM, .inl (cJ, 6, (.inr (.inl (vp_updL (fun _ => 0) (0 : Int32).toNatClampNeg 1)))))] s.heap := hP
  have hl := lv_entry ([.ref xHan, .int 2]) (n := 2) (Nat.le_of_ble_eq_true rfl)
  rw [lg_entry_eq]
  generalize (lg_sl ([.ref xHan, .int 2]) ++ List.replicate (2 - (lg_sl ([.ref xHan, .int 2])).length) Slot.unset).toArray = ls at hl ⊢
  have hl : lv_has ls 2 [(0, .ref xHan), (1, .int 2)] := hl
  refine lv_iload_n hx hb dX3_timesOf_0 rfl (lv_at hl 1 rfl) ?_
  refine lv_if_lt (tgt := 23) hx hb dX3_timesOf_1 (by decide) (fun c => absurd c (by decide)) (fun _ => ?_)
  refine lv_iload_n hx hb dX3_timesOf_4 rfl (lv_at hl 1 rfl) ?_
  refine lv_aload_n hx hb dX3_timesOf_5 rfl (lv_at hl 0 rfl) ?_
  refine va_get (D := (dC, dI)) (ci := 3) (v := .ref hM) (C := RX3) (T := TX3) (N := 7) hx hb hts hiX3 hown hK hP 0 rfl rfl 6 (by decide) (hts (.fieldLink RX3 22 "ScissorsTable$Hang" "times" "[J") (by decide +kernel)) (fun _ h9 => h9) rfl dX3_timesOf_6 ?_
  refine va_alen (v := 6) hx hb hK hP 1 2 rfl rfl rfl dX3_timesOf_9 ?_
  refine lv_icmp_ge (tgt := 23) hx hb dX3_timesOf_10 (by decide) (fun c => absurd c (by decide)) (fun _ => ?_)
  refine lv_aload_n hx hb dX3_timesOf_13 rfl (lv_at hl 0 rfl) ?_
  refine va_get (D := (dC, dI)) (ci := 3) (v := .ref hM) (C := RX3) (T := TX3) (N := 7) hx hb hts hiX3 hown hK hP 0 rfl rfl 6 (by decide) (hts (.fieldLink RX3 22 "ScissorsTable$Hang" "times" "[J") (by decide +kernel)) (fun _ h9 => h9) rfl dX3_timesOf_14 ?_
  refine lv_iload_n hx hb dX3_timesOf_17 rfl (lv_at hl 1 rfl) ?_
  refine va_lald hx hb hK hP 1 2 rfl rfl (by show ¬ (_ ∨ _); decide) dX3_timesOf_18 ?_
  refine lv_topl (fun x_1 ex_1 => ?_)
  obtain rfl : x_1 = 0 := ex_1.trans (by first | rfl | decide)
  refine lv_l2i (v := 0) hx hb dX3_timesOf_19 (by decide) ?_
  refine lv_goto (tgt := 24) hx hb dX3_timesOf_20 (by decide) ?_
  refine W.widen (k := 0) (n := 0) (Nat.le_of_ble_eq_true rfl) (Nat.le_of_ble_eq_true rfl) ?_
  exact W.iret (v := 0) hx hb hr (fun t ht hW => ⟨⟨0, (), rfl, rfl, trivial⟩, hS.F ht⟩) hS.2.2 dX3_timesOf_24
set_option maxHeartbeats 4000000 in
set_option maxRecDepth 100000 in
theorem c_X3_canTell_t4 (l : Launch) (dC : Nat → ClassId) (dI : Nat → Nat → Nat) (cB cI cJ : ClassId) (sz : Nat) (xHan hH hR hT hM : Nat) : Met l yX3_canTell wsX3_canTell ({ frames := 1, cells := 0, slots := 0, locals := 24 }) (va_Pc [.ref xHan] (fun U => U.heap.size = sz ∧ va_P (dC, dI) vwCl [(xHan, .inr (3, [.int 0, .int 4, .int 1, .ref hH, .ref hR, .ref hT, .ref hM])), (hM, .inl (cJ, 6, (.inr (.inl (vp_updL (fun _ => 0) (0 : Int32).toNatClampNeg 1)))))] U.heap ∧ va_K (dC, dI) vwCl [(cB, .byte), (cI, .int), (cJ, .long)] U ∧ va_D (fun _ => True) [(xHan, .inr (3, [.int 0, .int 4, .int 1, .ref hH, .ref hR, .ref hT, .ref hM])), (hM, .inl (cJ, 6, (.inr (.inl (vp_updL (fun _ => 0) (0 : Int32).toNatClampNeg 1)))))])) (va_Qi (fun (r : Int32) (_ : Unit) => r = 1) (fun _ t => va_P (dC, dI) vwCl [(xHan, .inr (3, [.int 0, .int 4, .int 1, .ref hH, .ref hR, .ref hT, .ref hM])), (hM, .inl (cJ, 6, (.inr (.inl (vp_updL (fun _ => 0) (0 : Int32).toNatClampNeg 1)))))] t.heap ∧ va_K (dC, dI) vwCl [(cB, .byte), (cI, .int), (cJ, .long)] t ∧ va_D (va_A [(xHan, .inr (3, [.int 0, .int 4, .int 1, .ref hH, .ref hR, .ref hT, .ref hM])), (hM, .inl (cJ, 6, (.inr (.inl (vp_updL (fun _ => 0) (0 : Int32).toNatClampNeg 1)))))] sz) [(xHan, .inr (3, [.int 0, .int 4, .int 1, .ref hH, .ref hR, .ref hT, .ref hM])), (hM, .inl (cJ, 6, (.inr (.inl (vp_updL (fun _ => 0) (0 : Int32).toNatClampNeg 1)))))]) (va_A [(xHan, .inr (3, [.int 0, .int 4, .int 1, .ref hH, .ref hR, .ref hT, .ref hM])), (hM, .inl (cJ, 6, (.inr (.inl (vp_updL (fun _ => 0) (0 : Int32).toNatClampNeg 1)))))] sz)) 0 0 (va_A [(xHan, .inr (3, [.int 0, .int 4, .int 1, .ref hH, .ref hR, .ref hT, .ref hM])), (hM, .inl (cJ, 6, (.inr (.inl (vp_updL (fun _ => 0) (0 : Int32).toNatClampNeg 1)))))] sz) := by
  refine Met.ofW (cc := cX3_canTell) (maxL := 2) (ret := (some .boolean)) (by decide) rfl ?_
  intro p e s m args below meth c s₁ B hml hv
  obtain ⟨rfl, hsz, hP, hK, hD0⟩ := hv
  have hx := B.exec
  have hb := B.bytes
  have hr := B.returns
  have hts := atoms_spec (ws := wsX3_canTell) B.pre
  have hown : s.vm.findClass RX3 = some m.cls := findClass_of_methodNamed B.named
  have hlocks := B.notSynchronized
  have hiX3 : ∀ w ∈ u_ws RX3 TX3 7, w ∈ wsX3_canTell := by decide +kernel
  subst hsz
  have hD := hD0.self (sz := s.heap.size)
  generalize hAe : va_A [(xHan, .inr (3, [.int 0, .int 4, .int 1, .ref hH, .ref hR, .ref hT, .ref hM])), (hM, .inl (cJ, 6, (.inr (.inl (vp_updL (fun _ => 0) (0 : Int32).toNatClampNeg 1)))))] s.heap.size = A at hD ⊢
  have hA : ∀ q : Nat, s.heap.size ≤ q → A q := fun q h => by rw [← hAe]; exact Or.inr h
  have hS : va_S A s.heap s.heap [] := va_S.rf
  have hP : va_P (dC, dI) vwCl [(xHan, .inr (3, [.int 0, .int 4, .int 1, .ref hH, .ref hR, .ref hT, .ref hM])), (hM, .inl (cJ, 6, (.inr (.inl (vp_updL (fun _ => 0) (0 : Int32).toNatClampNeg 1)))))] s.heap := hP
  have hl := lv_entry ([.ref xHan]) (n := 2) (Nat.le_of_ble_eq_true rfl)
  rw [lg_entry_eq]
  generalize (lg_sl ([.ref xHan]) ++ List.replicate (2 - (lg_sl ([.ref xHan])).length) Slot.unset).toArray = ls at hl ⊢
  have hl : lv_has ls 2 [(0, .ref xHan)] := hl
  refine lv_iconst (v := 0) hx hb dX3_canTell_0 (by decide) ?_
  refine lv_istore_n (lv' := [(1, .int 0), (0, .ref xHan)]) hx hb dX3_canTell_1 rfl hl (by decide) rfl (fun ls hl => ?_)
  refine lv_iload_n hx hb dX3_canTell_2 rfl (lv_at hl 0 rfl) ?_
  refine lv_aload_n hx hb dX3_canTell_3 rfl (lv_at hl 1 rfl) ?_
  refine va_get (D := (dC, dI)) (ci := 3) (v := .ref hM) (C := RX3) (T := TX3) (N := 7) hx hb hts hiX3 hown hK hP 0 rfl rfl 6 (by decide) (hts (.fieldLink RX3 22 "ScissorsTable$Hang" "times" "[J") (by decide +kernel)) (fun _ h9 => h9) rfl dX3_canTell_4 ?_
  refine va_alen (v := 6) hx hb hK hP 1 2 rfl rfl rfl dX3_canTell_7 ?_
  refine lv_icmp_ge (tgt := 44) hx hb dX3_canTell_8 (by decide) (fun c => absurd c (by decide)) (fun _ => ?_)
  refine lv_aload_n hx hb dX3_canTell_11 rfl (lv_at hl 1 rfl) ?_
  refine va_get (D := (dC, dI)) (ci := 3) (v := .int 1) (C := RX3) (T := TX3) (N := 7) hx hb hts hiX3 hown hK hP 0 rfl rfl 2 (by decide) (hts (.fieldLink RX3 32 "ScissorsTable$Hang" "related" "Z") (by decide +kernel)) (fun _ h9 => h9) rfl dX3_canTell_12 ?_
  refine lv_if_eq (tgt := 38) hx hb dX3_canTell_15 (by decide) (fun c => absurd c (by decide)) (fun _ => ?_)
  refine lv_aload_n hx hb dX3_canTell_18 rfl (lv_at hl 1 rfl) ?_
  refine va_get (D := (dC, dI)) (ci := 3) (v := .ref hM) (C := RX3) (T := TX3) (N := 7) hx hb hts hiX3 hown hK hP 0 rfl rfl 6 (by decide) (hts (.fieldLink RX3 22 "ScissorsTable$Hang" "times" "[J") (by decide +kernel)) (fun _ h9 => h9) rfl dX3_canTell_19 ?_
  refine lv_iload_n hx hb dX3_canTell_22 rfl (lv_at hl 0 rfl) ?_
  refine va_lald hx hb hK hP 1 2 rfl rfl (by show ¬ (_ ∨ _); decide) dX3_canTell_23 ?_
  refine lv_topl (fun x_1 ex_1 => ?_)
  obtain rfl : x_1 = 1 := ex_1.trans (by first | rfl | decide)
  refine lv_aload_n hx hb dX3_canTell_24 rfl (lv_at hl 1 rfl) ?_
  refine va_get (D := (dC, dI)) (ci := 3) (v := .ref hM) (C := RX3) (T := TX3) (N := 7) hx hb hts hiX3 hown hK hP 0 rfl rfl 6 (by decide) (hts (.fieldLink RX3 22 "ScissorsTable$Hang" "times" "[J") (by decide +kernel)) (fun _ h9 => h9) rfl dX3_canTell_25 ?_
  refine lv_iload_n hx hb dX3_canTell_28 rfl (lv_at hl 0 rfl) ?_
  refine va_lald hx hb hK hP 1 2 rfl rfl (by show ¬ (_ ∨ _); decide) dX3_canTell_29 ?_
  refine lv_topl (fun x_2 ex_2 => ?_)
  obtain rfl : x_2 = 1 := ex_2.trans (by first | rfl | decide)
  refine lv_l2i (v := 1) hx hb dX3_canTell_30 (by decide) ?_
  refine lv_i2l (v := 1) hx hb dX3_canTell_31 (by decide) ?_
  refine W.lcmp hx hb dX3_canTell_32 ?_
  refine lv_topi (fun x_3 ex_3 => ?_)
  obtain rfl : x_3 = 0 := ex_3.trans (by first | rfl | decide)
  refine lv_if_eq (tgt := 38) hx hb dX3_canTell_33 (by decide) (fun _ => ?_) (fun c => absurd (by decide) c)
  refine lv_iinc (v := 1) (lv' := [(1, .int 1), (0, .ref xHan)]) hx hb dX3_canTell_38 hl (k := 0) rfl (by decide) (by decide) rfl (fun ls hl => ?_)
  refine lv_goto (tgt := 2) hx hb dX3_canTell_41 (by decide) ?_
  refine lv_iload_n hx hb dX3_canTell_2 rfl (lv_at hl 0 rfl) ?_
  refine lv_aload_n hx hb dX3_canTell_3 rfl (lv_at hl 1 rfl) ?_
  refine va_get (D := (dC, dI)) (ci := 3) (v := .ref hM) (C := RX3) (T := TX3) (N := 7) hx hb hts hiX3 hown hK hP 0 rfl rfl 6 (by decide) (hts (.fieldLink RX3 22 "ScissorsTable$Hang" "times" "[J") (by decide +kernel)) (fun _ h9 => h9) rfl dX3_canTell_4 ?_
  refine va_alen (v := 6) hx hb hK hP 1 2 rfl rfl rfl dX3_canTell_7 ?_
  refine lv_icmp_ge (tgt := 44) hx hb dX3_canTell_8 (by decide) (fun c => absurd c (by decide)) (fun _ => ?_)
  refine lv_aload_n hx hb dX3_canTell_11 rfl (lv_at hl 1 rfl) ?_
  refine va_get (D := (dC, dI)) (ci := 3) (v := .int 1) (C := RX3) (T := TX3) (N := 7) hx hb hts hiX3 hown hK hP 0 rfl rfl 2 (by decide) (hts (.fieldLink RX3 32 "ScissorsTable$Hang" "related" "Z") (by decide +kernel)) (fun _ h9 => h9) rfl dX3_canTell_12 ?_
  refine lv_if_eq (tgt := 38) hx hb dX3_canTell_15 (by decide) (fun c => absurd c (by decide)) (fun _ => ?_)
  refine lv_aload_n hx hb dX3_canTell_18 rfl (lv_at hl 1 rfl) ?_
  refine va_get (D := (dC, dI)) (ci := 3) (v := .ref hM) (C := RX3) (T := TX3) (N := 7) hx hb hts hiX3 hown hK hP 0 rfl rfl 6 (by decide) (hts (.fieldLink RX3 22 "ScissorsTable$Hang" "times" "[J") (by decide +kernel)) (fun _ h9 => h9) rfl dX3_canTell_19 ?_
  refine lv_iload_n hx hb dX3_canTell_22 rfl (lv_at hl 0 rfl) ?_
  refine va_lald hx hb hK hP 1 2 rfl rfl (by show ¬ (_ ∨ _); decide) dX3_canTell_23 ?_
  refine lv_topl (fun x_4 ex_4 => ?_)
  obtain rfl : x_4 = 0 := ex_4.trans (by first | rfl | decide)
  refine lv_aload_n hx hb dX3_canTell_24 rfl (lv_at hl 1 rfl) ?_
  refine va_get (D := (dC, dI)) (ci := 3) (v := .ref hM) (C := RX3) (T := TX3) (N := 7) hx hb hts hiX3 hown hK hP 0 rfl rfl 6 (by decide) (hts (.fieldLink RX3 22 "ScissorsTable$Hang" "times" "[J") (by decide +kernel)) (fun _ h9 => h9) rfl dX3_canTell_25 ?_
  refine lv_iload_n hx hb dX3_canTell_28 rfl (lv_at hl 0 rfl) ?_
  refine va_lald hx hb hK hP 1 2 rfl rfl (by show ¬ (_ ∨ _); decide) dX3_canTell_29 ?_
  refine lv_topl (fun x_5 ex_5 => ?_)
  obtain rfl : x_5 = 0 := ex_5.trans (by first | rfl | decide)
  refine lv_l2i (v := 0) hx hb dX3_canTell_30 (by decide) ?_
  refine lv_i2l (v := 0) hx hb dX3_canTell_31 (by decide) ?_
  refine W.lcmp hx hb dX3_canTell_32 ?_
  refine lv_topi (fun x_6 ex_6 => ?_)
  obtain rfl : x_6 = 0 := ex_6.trans (by first | rfl | decide)
  refine lv_if_eq (tgt := 38) hx hb dX3_canTell_33 (by decide) (fun _ => ?_) (fun c => absurd (by decide) c)
  refine lv_iinc (v := 2) (lv' := [(1, .int 2), (0, .ref xHan)]) hx hb dX3_canTell_38 hl (k := 0) rfl (by decide) (by decide) rfl (fun ls hl => ?_)
  refine lv_goto (tgt := 2) hx hb dX3_canTell_41 (by decide) ?_
  refine lv_iload_n hx hb dX3_canTell_2 rfl (lv_at hl 0 rfl) ?_
  refine lv_aload_n hx hb dX3_canTell_3 rfl (lv_at hl 1 rfl) ?_
  refine va_get (D := (dC, dI)) (ci := 3) (v := .ref hM) (C := RX3) (T := TX3) (N := 7) hx hb hts hiX3 hown hK hP 0 rfl rfl 6 (by decide) (hts (.fieldLink RX3 22 "ScissorsTable$Hang" "times" "[J") (by decide +kernel)) (fun _ h9 => h9) rfl dX3_canTell_4 ?_
  refine va_alen (v := 6) hx hb hK hP 1 2 rfl rfl rfl dX3_canTell_7 ?_
  refine lv_icmp_ge (tgt := 44) hx hb dX3_canTell_8 (by decide) (fun c => absurd c (by decide)) (fun _ => ?_)
  refine lv_aload_n hx hb dX3_canTell_11 rfl (lv_at hl 1 rfl) ?_
  refine va_get (D := (dC, dI)) (ci := 3) (v := .int 1) (C := RX3) (T := TX3) (N := 7) hx hb hts hiX3 hown hK hP 0 rfl rfl 2 (by decide) (hts (.fieldLink RX3 32 "ScissorsTable$Hang" "related" "Z") (by decide +kernel)) (fun _ h9 => h9) rfl dX3_canTell_12 ?_
  refine lv_if_eq (tgt := 38) hx hb dX3_canTell_15 (by decide) (fun c => absurd c (by decide)) (fun _ => ?_)
  refine lv_aload_n hx hb dX3_canTell_18 rfl (lv_at hl 1 rfl) ?_
  refine va_get (D := (dC, dI)) (ci := 3) (v := .ref hM) (C := RX3) (T := TX3) (N := 7) hx hb hts hiX3 hown hK hP 0 rfl rfl 6 (by decide) (hts (.fieldLink RX3 22 "ScissorsTable$Hang" "times" "[J") (by decide +kernel)) (fun _ h9 => h9) rfl dX3_canTell_19 ?_
  refine lv_iload_n hx hb dX3_canTell_22 rfl (lv_at hl 0 rfl) ?_
  refine va_lald hx hb hK hP 1 2 rfl rfl (by show ¬ (_ ∨ _); decide) dX3_canTell_23 ?_
  refine lv_topl (fun x_7 ex_7 => ?_)
  obtain rfl : x_7 = 0 := ex_7.trans (by first | rfl | decide)
  refine lv_aload_n hx hb dX3_canTell_24 rfl (lv_at hl 1 rfl) ?_
  refine va_get (D := (dC, dI)) (ci := 3) (v := .ref hM) (C := RX3) (T := TX3) (N := 7) hx hb hts hiX3 hown hK hP 0 rfl rfl 6 (by decide) (hts (.fieldLink RX3 22 "ScissorsTable$Hang" "times" "[J") (by decide +kernel)) (fun _ h9 => h9) rfl dX3_canTell_25 ?_
  refine lv_iload_n hx hb dX3_canTell_28 rfl (lv_at hl 0 rfl) ?_
  refine va_lald hx hb hK hP 1 2 rfl rfl (by show ¬ (_ ∨ _); decide) dX3_canTell_29 ?_
  refine lv_topl (fun x_8 ex_8 => ?_)
  obtain rfl : x_8 = 0 := ex_8.trans (by first | rfl | decide)
  refine lv_l2i (v := 0) hx hb dX3_canTell_30 (by decide) ?_
  refine lv_i2l (v := 0) hx hb dX3_canTell_31 (by decide) ?_
  refine W.lcmp hx hb dX3_canTell_32 ?_
  refine lv_topi (fun x_9 ex_9 => ?_)
  obtain rfl : x_9 = 0 := ex_9.trans (by first | rfl | decide)
  refine lv_if_eq (tgt := 38) hx hb dX3_canTell_33 (by decide) (fun _ => ?_) (fun c => absurd (by decide) c)
  refine lv_iinc (v := 3) (lv' := [(1, .int 3), (0, .ref xHan)]) hx hb dX3_canTell_38 hl (k := 0) rfl (by decide) (by decide) rfl (fun ls hl => ?_)
  refine lv_goto (tgt := 2) hx hb dX3_canTell_41 (by decide) ?_
  refine lv_iload_n hx hb dX3_canTell_2 rfl (lv_at hl 0 rfl) ?_
  refine lv_aload_n hx hb dX3_canTell_3 rfl (lv_at hl 1 rfl) ?_
  refine va_get (D := (dC, dI)) (ci := 3) (v := .ref hM) (C := RX3) (T := TX3) (N := 7) hx hb hts hiX3 hown hK hP 0 rfl rfl 6 (by decide) (hts (.fieldLink RX3 22 "ScissorsTable$Hang" "times" "[J") (by decide +kernel)) (fun _ h9 => h9) rfl dX3_canTell_4 ?_
  refine va_alen (v := 6) hx hb hK hP 1 2 rfl rfl rfl dX3_canTell_7 ?_
  refine lv_icmp_ge (tgt := 44) hx hb dX3_canTell_8 (by decide) (fun c => absurd c (by decide)) (fun _ => ?_)
  refine lv_aload_n hx hb dX3_canTell_11 rfl (lv_at hl 1 rfl) ?_
  refine va_get (D := (dC, dI)) (ci := 3) (v := .int 1) (C := RX3) (T := TX3) (N := 7) hx hb hts hiX3 hown hK hP 0 rfl rfl 2 (by decide) (hts (.fieldLink RX3 32 "ScissorsTable$Hang" "related" "Z") (by decide +kernel)) (fun _ h9 => h9) rfl dX3_canTell_12 ?_
  refine lv_if_eq (tgt := 38) hx hb dX3_canTell_15 (by decide) (fun c => absurd c (by decide)) (fun _ => ?_)
  refine lv_aload_n hx hb dX3_canTell_18 rfl (lv_at hl 1 rfl) ?_
  refine va_get (D := (dC, dI)) (ci := 3) (v := .ref hM) (C := RX3) (T := TX3) (N := 7) hx hb hts hiX3 hown hK hP 0 rfl rfl 6 (by decide) (hts (.fieldLink RX3 22 "ScissorsTable$Hang" "times" "[J") (by decide +kernel)) (fun _ h9 => h9) rfl dX3_canTell_19 ?_
  refine lv_iload_n hx hb dX3_canTell_22 rfl (lv_at hl 0 rfl) ?_
  refine va_lald hx hb hK hP 1 2 rfl rfl (by show ¬ (_ ∨ _); decide) dX3_canTell_23 ?_
  refine lv_topl (fun x_10 ex_10 => ?_)
  obtain rfl : x_10 = 0 := ex_10.trans (by first | rfl | decide)
  refine lv_aload_n hx hb dX3_canTell_24 rfl (lv_at hl 1 rfl) ?_
  refine va_get (D := (dC, dI)) (ci := 3) (v := .ref hM) (C := RX3) (T := TX3) (N := 7) hx hb hts hiX3 hown hK hP 0 rfl rfl 6 (by decide) (hts (.fieldLink RX3 22 "ScissorsTable$Hang" "times" "[J") (by decide +kernel)) (fun _ h9 => h9) rfl dX3_canTell_25 ?_
  refine lv_iload_n hx hb dX3_canTell_28 rfl (lv_at hl 0 rfl) ?_
  refine va_lald hx hb hK hP 1 2 rfl rfl (by show ¬ (_ ∨ _); decide) dX3_canTell_29 ?_
  refine lv_topl (fun x_11 ex_11 => ?_)
  obtain rfl : x_11 = 0 := ex_11.trans (by first | rfl | decide)
  refine lv_l2i (v := 0) hx hb dX3_canTell_30 (by decide) ?_
  refine lv_i2l (v := 0) hx hb dX3_canTell_31 (by decide) ?_
  refine W.lcmp hx hb dX3_canTell_32 ?_
  refine lv_topi (fun x_12 ex_12 => ?_)
  obtain rfl : x_12 = 0 := ex_12.trans (by first | rfl | decide)
  refine lv_if_eq (tgt := 38) hx hb dX3_canTell_33 (by decide) (fun _ => ?_) (fun c => absurd (by decide) c)
  refine lv_iinc (v := 4) (lv' := [(1, .int 4), (0, .ref xHan)]) hx hb dX3_canTell_38 hl (k := 0) rfl (by decide) (by decide) rfl (fun ls hl => ?_)
  refine lv_goto (tgt := 2) hx hb dX3_canTell_41 (by decide) ?_
  refine lv_iload_n hx hb dX3_canTell_2 rfl (lv_at hl 0 rfl) ?_
  refine lv_aload_n hx hb dX3_canTell_3 rfl (lv_at hl 1 rfl) ?_
  refine va_get (D := (dC, dI)) (ci := 3) (v := .ref hM) (C := RX3) (T := TX3) (N := 7) hx hb hts hiX3 hown hK hP 0 rfl rfl 6 (by decide) (hts (.fieldLink RX3 22 "ScissorsTable$Hang" "times" "[J") (by decide +kernel)) (fun _ h9 => h9) rfl dX3_canTell_4 ?_
  refine va_alen (v := 6) hx hb hK hP 1 2 rfl rfl rfl dX3_canTell_7 ?_
  refine lv_icmp_ge (tgt := 44) hx hb dX3_canTell_8 (by decide) (fun c => absurd c (by decide)) (fun _ => ?_)
  refine lv_aload_n hx hb dX3_canTell_11 rfl (lv_at hl 1 rfl) ?_
  refine va_get (D := (dC, dI)) (ci := 3) (v := .int 1) (C := RX3) (T := TX3) (N := 7) hx hb hts hiX3 hown hK hP 0 rfl rfl 2 (by decide) (hts (.fieldLink RX3 32 "ScissorsTable$Hang" "related" "Z") (by decide +kernel)) (fun _ h9 => h9) rfl dX3_canTell_12 ?_
  refine lv_if_eq (tgt := 38) hx hb dX3_canTell_15 (by decide) (fun c => absurd c (by decide)) (fun _ => ?_)
  refine lv_aload_n hx hb dX3_canTell_18 rfl (lv_at hl 1 rfl) ?_
  refine va_get (D := (dC, dI)) (ci := 3) (v := .ref hM) (C := RX3) (T := TX3) (N := 7) hx hb hts hiX3 hown hK hP 0 rfl rfl 6 (by decide) (hts (.fieldLink RX3 22 "ScissorsTable$Hang" "times" "[J") (by decide +kernel)) (fun _ h9 => h9) rfl dX3_canTell_19 ?_
  refine lv_iload_n hx hb dX3_canTell_22 rfl (lv_at hl 0 rfl) ?_
  refine va_lald hx hb hK hP 1 2 rfl rfl (by show ¬ (_ ∨ _); decide) dX3_canTell_23 ?_
  refine lv_topl (fun x_13 ex_13 => ?_)
  obtain rfl : x_13 = 0 := ex_13.trans (by first | rfl | decide)
  refine lv_aload_n hx hb dX3_canTell_24 rfl (lv_at hl 1 rfl) ?_
  refine va_get (D := (dC, dI)) (ci := 3) (v := .ref hM) (C := RX3) (T := TX3) (N := 7) hx hb hts hiX3 hown hK hP 0 rfl rfl 6 (by decide) (hts (.fieldLink RX3 22 "ScissorsTable$Hang" "times" "[J") (by decide +kernel)) (fun _ h9 => h9) rfl dX3_canTell_25 ?_
  refine lv_iload_n hx hb dX3_canTell_28 rfl (lv_at hl 0 rfl) ?_
  refine va_lald hx hb hK hP 1 2 rfl rfl (by show ¬ (_ ∨ _); decide) dX3_canTell_29 ?_
  refine lv_topl (fun x_14 ex_14 => ?_)
  obtain rfl : x_14 = 0 := ex_14.trans (by first | rfl | decide)
  refine lv_l2i (v := 0) hx hb dX3_canTell_30 (by decide) ?_
  refine lv_i2l (v := 0) hx hb dX3_canTell_31 (by decide) ?_
  refine W.lcmp hx hb dX3_canTell_32 ?_
  refine lv_topi (fun x_15 ex_15 => ?_)
  obtain rfl : x_15 = 0 := ex_15.trans (by first | rfl | decide)
  refine lv_if_eq (tgt := 38) hx hb dX3_canTell_33 (by decide) (fun _ => ?_) (fun c => absurd (by decide) c)
  refine lv_iinc (v := 5) (lv' := [(1, .int 5), (0, .ref xHan)]) hx hb dX3_canTell_38 hl (k := 0) rfl (by decide) (by decide) rfl (fun ls hl => ?_)
  refine lv_goto (tgt := 2) hx hb dX3_canTell_41 (by decide) ?_
  refine lv_iload_n hx hb dX3_canTell_2 rfl (lv_at hl 0 rfl) ?_
  refine lv_aload_n hx hb dX3_canTell_3 rfl (lv_at hl 1 rfl) ?_
  refine va_get (D := (dC, dI)) (ci := 3) (v := .ref hM) (C := RX3) (T := TX3) (N := 7) hx hb hts hiX3 hown hK hP 0 rfl rfl 6 (by decide) (hts (.fieldLink RX3 22 "ScissorsTable$Hang" "times" "[J") (by decide +kernel)) (fun _ h9 => h9) rfl dX3_canTell_4 ?_
  refine va_alen (v := 6) hx hb hK hP 1 2 rfl rfl rfl dX3_canTell_7 ?_
  refine lv_icmp_ge (tgt := 44) hx hb dX3_canTell_8 (by decide) (fun c => absurd c (by decide)) (fun _ => ?_)
  refine lv_aload_n hx hb dX3_canTell_11 rfl (lv_at hl 1 rfl) ?_
  refine va_get (D := (dC, dI)) (ci := 3) (v := .int 1) (C := RX3) (T := TX3) (N := 7) hx hb hts hiX3 hown hK hP 0 rfl rfl 2 (by decide) (hts (.fieldLink RX3 32 "ScissorsTable$Hang" "related" "Z") (by decide +kernel)) (fun _ h9 => h9) rfl dX3_canTell_12 ?_
  refine lv_if_eq (tgt := 38) hx hb dX3_canTell_15 (by decide) (fun c => absurd c (by decide)) (fun _ => ?_)
  refine lv_aload_n hx hb dX3_canTell_18 rfl (lv_at hl 1 rfl) ?_
  refine va_get (D := (dC, dI)) (ci := 3) (v := .ref hM) (C := RX3) (T := TX3) (N := 7) hx hb hts hiX3 hown hK hP 0 rfl rfl 6 (by decide) (hts (.fieldLink RX3 22 "ScissorsTable$Hang" "times" "[J") (by decide +kernel)) (fun _ h9 => h9) rfl dX3_canTell_19 ?_
  refine lv_iload_n hx hb dX3_canTell_22 rfl (lv_at hl 0 rfl) ?_
  refine va_lald hx hb hK hP 1 2 rfl rfl (by show ¬ (_ ∨ _); decide) dX3_canTell_23 ?_
  refine lv_topl (fun x_16 ex_16 => ?_)
  obtain rfl : x_16 = 0 := ex_16.trans (by first | rfl | decide)
  refine lv_aload_n hx hb dX3_canTell_24 rfl (lv_at hl 1 rfl) ?_
  refine va_get (D := (dC, dI)) (ci := 3) (v := .ref hM) (C := RX3) (T := TX3) (N := 7) hx hb hts hiX3 hown hK hP 0 rfl rfl 6 (by decide) (hts (.fieldLink RX3 22 "ScissorsTable$Hang" "times" "[J") (by decide +kernel)) (fun _ h9 => h9) rfl dX3_canTell_25 ?_
  refine lv_iload_n hx hb dX3_canTell_28 rfl (lv_at hl 0 rfl) ?_
  refine va_lald hx hb hK hP 1 2 rfl rfl (by show ¬ (_ ∨ _); decide) dX3_canTell_29 ?_
  refine lv_topl (fun x_17 ex_17 => ?_)
  obtain rfl : x_17 = 0 := ex_17.trans (by first | rfl | decide)
  refine lv_l2i (v := 0) hx hb dX3_canTell_30 (by decide) ?_
  refine lv_i2l (v := 0) hx hb dX3_canTell_31 (by decide) ?_
  refine W.lcmp hx hb dX3_canTell_32 ?_
  refine lv_topi (fun x_18 ex_18 => ?_)
  obtain rfl : x_18 = 0 := ex_18.trans (by first | rfl | decide)
  refine lv_if_eq (tgt := 38) hx hb dX3_canTell_33 (by decide) (fun _ => ?_) (fun c => absurd (by decide) c)
  refine lv_iinc (v := 6) (lv' := [(1, .int 6), (0, .ref xHan)]) hx hb dX3_canTell_38 hl (k := 0) rfl (by decide) (by decide) rfl (fun ls hl => ?_)
  refine lv_goto (tgt := 2) hx hb dX3_canTell_41 (by decide) ?_
  refine lv_iload_n hx hb dX3_canTell_2 rfl (lv_at hl 0 rfl) ?_
  refine lv_aload_n hx hb dX3_canTell_3 rfl (lv_at hl 1 rfl) ?_
  refine va_get (D := (dC, dI)) (ci := 3) (v := .ref hM) (C := RX3) (T := TX3) (N := 7) hx hb hts hiX3 hown hK hP 0 rfl rfl 6 (by decide) (hts (.fieldLink RX3 22 "ScissorsTable$Hang" "times" "[J") (by decide +kernel)) (fun _ h9 => h9) rfl dX3_canTell_4 ?_
  refine va_alen (v := 6) hx hb hK hP 1 2 rfl rfl rfl dX3_canTell_7 ?_
  refine lv_icmp_ge (tgt := 44) hx hb dX3_canTell_8 (by decide) (fun _ => ?_) (fun c => absurd (by decide) c)
  refine lv_aload_n hx hb dX3_canTell_44 rfl (lv_at hl 1 rfl) ?_
  refine va_get (D := (dC, dI)) (ci := 3) (v := .int 1) (C := RX3) (T := TX3) (N := 7) hx hb hts hiX3 hown hK hP 0 rfl rfl 2 (by decide) (hts (.fieldLink RX3 32 "ScissorsTable$Hang" "related" "Z") (by decide +kernel)) (fun _ h9 => h9) rfl dX3_canTell_45 ?_
  have hP9 := hP.sub (ws' := [(xHan, .inr (3, [.int 0, .int 4, .int 1, .ref hH, .ref hR, .ref hT, .ref hM])), (hM, .inl (cJ, 6, (.inr (.inl (vp_updL (fun _ => 0) (0 : Int32).toNatClampNeg 1)))))]) [0, 1] rfl
  have hD9 := hD.sub (ws' := [(xHan, .inr (3, [.int 0, .int 4, .int 1, .ref hH, .ref hR, .ref hT, .ref hM])), (hM, .inl (cJ, 6, (.inr (.inl (vp_updL (fun _ => 0) (0 : Int32).toNatClampNeg 1)))))]) [0, 1] (by decide) rfl
  refine W.widen (k := 0) (n := 0) (Nat.le_of_ble_eq_true rfl) (Nat.le_of_ble_eq_true rfl) ?_
  exact W.zret (v := 1) hx hb hr (by decide) (fun t ht hW => ⟨⟨1, (), rfl, rfl, by rw [ht]; exact hP9, va_K.moved hW.alike hK, hD9⟩, hS.F ht⟩) hS.2.2 dX3_canTell_48
set_option maxHeartbeats 4000000 in
set_option maxRecDepth 100000 in
theorem c_X3_timesOf_t4_0 (l : Launch) (dC : Nat → ClassId) (dI : Nat → Nat → Nat) (cB cI cJ : ClassId) (sz : Nat) (xHan hH hR hT hM : Nat) : Met l yX3_timesOf wsX3_timesOf ({ frames := 1, cells := 0, slots := 0, locals := 24 }) (va_Pc [.ref xHan, .int 0] (fun U => U.heap.size = sz ∧ va_P (dC, dI) vwCl [(xHan, .inr (3, [.int 0, .int 4, .int 1, .ref hH, .ref hR, .ref hT, .ref hM])), (hM, .inl (cJ, 6, (.inr (.inl (vp_updL (fun _ => 0) (0 : Int32).toNatClampNeg 1)))))] U.heap ∧ va_K (dC, dI) vwCl [(cB, .byte), (cI, .int), (cJ, .long)] U ∧ va_D (fun _ => True) [(xHan, .inr (3, [.int 0, .int 4, .int 1, .ref hH, .ref hR, .ref hT, .ref hM])), (hM, .inl (cJ, 6, (.inr (.inl (vp_updL (fun _ => 0) (0 : Int32).toNatClampNeg 1)))))])) (va_Qi (fun (r : Int32) (_ : Unit) => r = 1) (fun _ _ => True) (va_A [(xHan, .inr (3, [.int 0, .int 4, .int 1, .ref hH, .ref hR, .ref hT, .ref hM])), (hM, .inl (cJ, 6, (.inr (.inl (vp_updL (fun _ => 0) (0 : Int32).toNatClampNeg 1)))))] sz)) 0 0 (va_A [(xHan, .inr (3, [.int 0, .int 4, .int 1, .ref hH, .ref hR, .ref hT, .ref hM])), (hM, .inl (cJ, 6, (.inr (.inl (vp_updL (fun _ => 0) (0 : Int32).toNatClampNeg 1)))))] sz) := by
  refine Met.ofW (cc := cX3_timesOf) (maxL := 2) (ret := (some .int)) (by decide) rfl ?_
  intro p e s m args below meth c s₁ B hml hv
  obtain ⟨rfl, hsz, hP, hK, hD0⟩ := hv
  have hx := B.exec
  have hb := B.bytes
  have hr := B.returns
  have hts := atoms_spec (ws := wsX3_timesOf) B.pre
  have hown : s.vm.findClass RX3 = some m.cls := findClass_of_methodNamed B.named
  have hlocks := B.notSynchronized
  have hiX3 : ∀ w ∈ u_ws RX3 TX3 7, w ∈ wsX3_timesOf := by decide +kernel
  subst hsz
  have hD := hD0.self (sz := s.heap.size)
  generalize hAe : va_A [(xHan, .inr (3, [.int 0, .int 4, .int 1, .ref hH, .ref hR, .ref hT, .ref hM])), (hM, .inl (cJ, 6, (.inr (.inl (vp_updL (fun _ => 0) (0 : Int32).toNatClampNeg 1)))))] s.heap.size = A at hD ⊢
  have hA : ∀ q : Nat, s.heap.size ≤ q → A q := fun q h => by rw [← hAe]; exact Or.inr h
  have hS : va_S A s.heap s.heap [] := va_S.rf
  have hP : va_P (dC, dI) vwCl [(xHan, .inr (3, [.int 0, .int 4, .int 1, .ref hH, .ref hR, .ref hT, .ref hM])), (hM, .inl (cJ, 6, (.inr (.inl (vp_updL (fun _ => 0) (0 : Int32).toNatClampNeg 1)))))] s.heap := hP
  have hl := lv_entry ([.ref xHan, .int 0]) (n := 2) (Nat.le_of_ble_eq_true rfl)
  rw [lg_entry_eq]
  generalize (lg_sl ([.ref xHan, .int 0]) ++ List.replicate (2 - (lg_sl ([.ref xHan, .int 0])).length) Slot.unset).toArray = ls at hl ⊢
  have hl : lv_has ls 2 [(0, .ref xHan), (1, .int 0)] := hl
  refine lv_iload_n hx hb dX3_timesOf_0 rfl (lv_at hl 1 rfl) ?_
  refine lv_if_lt (tgt := 23) hx hb dX3_timesOf_1 (by decide) (fun c => absurd c (by decide)) (fun _ => ?_)
  refine lv_iload_n hx hb dX3_timesOf_4 rfl (lv_at hl 1 rfl) ?_
  refine lv_aload_n hx hb dX3_timesOf_5 rfl (lv_at hl 0 rfl) ?_
  refine va_get (D := (dC, dI)) (ci := 3) (v := .ref hM) (C := RX3) (T := TX3) (N := 7) hx hb hts hiX3 hown hK hP 0 rfl rfl 6 (by decide) (hts (.fieldLink RX3 22 "ScissorsTable$Hang" "times" "[J") (by decide +kernel)) (fun _ h9 => h9) rfl dX3_timesOf_6 ?_
  refine va_alen (v := 6) hx hb hK hP 1 2 rfl rfl rfl dX3_timesOf_9 ?_
  refine lv_icmp_ge (tgt := 23) hx hb dX3_timesOf_10 (by decide) (fun c => absurd c (by decide)) (fun _ => ?_)
  refine lv_aload_n hx hb dX3_timesOf_13 rfl (lv_at hl 0 rfl) ?_
  refine va_get (D := (dC, dI)) (ci := 3) (v := .ref hM) (C := RX3) (T := TX3) (N := 7) hx hb hts hiX3 hown hK hP 0 rfl rfl 6 (by decide) (hts (.fieldLink RX3 22 "ScissorsTable$Hang" "times" "[J") (by decide +kernel)) (fun _ h9 => h9) rfl dX3_timesOf_14 ?_
  refine lv_iload_n hx hb dX3_timesOf_17 rfl (lv_at hl 1 rfl) ?_
  refine va_lald hx hb hK hP 1 2 rfl rfl (by show ¬ (_ ∨ _); decide) dX3_timesOf_18 ?_
  refine lv_topl (fun x_1 ex_1 => ?_)
  obtain rfl : x_1 = 1 := ex_1.trans (by first | rfl | decide)
  refine lv_l2i (v := 1) hx hb dX3_timesOf_19 (by decide) ?_
  refine lv_goto (tgt := 24) hx hb dX3_timesOf_20 (by decide) ?_
  refine W.widen (k := 0) (n := 0) (Nat.le_of_ble_eq_true rfl) (Nat.le_of_ble_eq_true rfl) ?_
  exact W.iret (v := 1) hx hb hr (fun t ht hW => ⟨⟨1, (), rfl, rfl, trivial⟩, hS.F ht⟩) hS.2.2 dX3_timesOf_24
set_option maxHeartbeats 4000000 in
set_option maxRecDepth 100000 in
theorem c_X3_timesOf_t4_1 (l : Launch) (dC : Nat → ClassId) (dI : Nat → Nat → Nat) (cB cI cJ : ClassId) (sz : Nat) (xHan hH hR hT hM : Nat) : Met l yX3_timesOf wsX3_timesOf ({ frames := 1, cells := 0, slots := 0, locals := 24 }) (va_Pc [.ref xHan, .int 1] (fun U => U.heap.size = sz ∧ va_P (dC, dI) vwCl [(xHan, .inr (3, [.int 0, .int 4, .int 1, .ref hH, .ref hR, .ref hT, .ref hM])), (hM, .inl (cJ, 6, (.inr (.inl (vp_updL (fun _ => 0) (0 : Int32).toNatClampNeg 1)))))] U.heap ∧ va_K (dC, dI) vwCl [(cB, .byte), (cI, .int), (cJ, .long)] U ∧ va_D (fun _ => True) [(xHan, .inr (3, [.int 0, .int 4, .int 1, .ref hH, .ref hR, .ref hT, .ref hM])), (hM, .inl (cJ, 6, (.inr (.inl (vp_updL (fun _ => 0) (0 : Int32).toNatClampNeg 1)))))])) (va_Qi (fun (r : Int32) (_ : Unit) => r = 0) (fun _ _ => True) (va_A [(xHan, .inr (3, [.int 0, .int 4, .int 1, .ref hH, .ref hR, .ref hT, .ref hM])), (hM, .inl (cJ, 6, (.inr (.inl (vp_updL (fun _ => 0) (0 : Int32).toNatClampNeg 1)))))] sz)) 0 0 (va_A [(xHan, .inr (3, [.int 0, .int 4, .int 1, .ref hH, .ref hR, .ref hT, .ref hM])), (hM, .inl (cJ, 6, (.inr (.inl (vp_updL (fun _ => 0) (0 : Int32).toNatClampNeg 1)))))] sz) := by
  refine Met.ofW (cc := cX3_timesOf) (maxL := 2) (ret := (some .int)) (by decide) rfl ?_
  intro p e s m args below meth c s₁ B hml hv
  obtain ⟨rfl, hsz, hP, hK, hD0⟩ := hv
  have hx := B.exec
  have hb := B.bytes
  have hr := B.returns
  have hts := atoms_spec (ws := wsX3_timesOf) B.pre
  have hown : s.vm.findClass RX3 = some m.cls := findClass_of_methodNamed B.named
  have hlocks := B.notSynchronized
  have hiX3 : ∀ w ∈ u_ws RX3 TX3 7, w ∈ wsX3_timesOf := by decide +kernel
  subst hsz
  have hD := hD0.self (sz := s.heap.size)
  generalize hAe : va_A [(xHan, .inr (3, [.int 0, .int 4, .int 1, .ref hH, .ref hR, .ref hT, .ref hM])), (hM, .inl (cJ, 6, (.inr (.inl (vp_updL (fun _ => 0) (0 : Int32).toNatClampNeg 1)))))] s.heap.size = A at hD ⊢
  have hA : ∀ q : Nat, s.heap.size ≤ q → A q := fun q h => by rw [← hAe]; exact Or.inr h
  have hS : va_S A s.heap s.heap [] := va_S.rf
  have hP : va_P (dC, dI) vwCl [(xHan, .inr (3, [.int 0, .int 4, .int 1, .ref hH, .ref hR, .ref hT, .ref hM])), (hM, .inl (cJ, 6, (.inr (.inl (vp_updL (fun _ => 0) (0 : Int32).toNatClampNeg 1)))))] s.heap := hP
  have hl := lv_entry ([.ref xHan, .int 1]) (n := 2) (Nat.le_of_ble_eq_true rfl)
  rw [lg_entry_eq]
  generalize (lg_sl ([.ref xHan, .int 1]) ++ List.replicate (2 - (lg_sl ([.ref xHan, .int 1])).length) Slot.unset).toArray = ls at hl ⊢
  have hl : lv_has ls 2 [(0, .ref xHan), (1, .int 1)] := hl
  refine lv_iload_n hx hb dX3_timesOf_0 rfl (lv_at hl 1 rfl) ?_
  refine lv_if_lt (tgt := 23) hx hb dX3_timesOf_1 (by decide) (fun c => absurd c (by decide)) (fun _ => ?_)
  refine lv_iload_n hx hb dX3_timesOf_4 rfl (lv_at hl 1 rfl) ?_
  refine lv_aload_n hx hb dX3_timesOf_5 rfl (lv_at hl 0 rfl) ?_
  refine va_get (D := (dC, dI)) (ci := 3) (v := .ref hM) (C := RX3) (T := TX3) (N := 7) hx hb hts hiX3 hown hK hP 0 rfl rfl 6 (by decide) (hts (.fieldLink RX3 22 "ScissorsTable$Hang" "times" "[J") (by decide +kernel)) (fun _ h9 => h9) rfl dX3_timesOf_6 ?_
  refine va_alen (v := 6) hx hb hK hP 1 2 rfl rfl rfl dX3_timesOf_9 ?_
  refine lv_icmp_ge (tgt := 23) hx hb dX3_timesOf_10 (by decide) (fun c => absurd c (by decide)) (fun _ => ?_)
  refine lv_aload_n hx hb dX3_timesOf_13 rfl (lv_at hl 0 rfl) ?_
  refine va_get (D := (dC, dI)) (ci := 3) (v := .ref hM) (C := RX3) (T := TX3) (N := 7) hx hb hts hiX3 hown hK hP 0 rfl rfl 6 (by decide) (hts (.fieldLink RX3 22 "ScissorsTable$Hang" "times" "[J") (by decide +kernel)) (fun _ h9 => h9) rfl dX3_timesOf_14 ?_
  refine lv_iload_n hx hb dX3_timesOf_17 rfl (lv_at hl 1 rfl) ?_
  refine va_lald hx hb hK hP 1 2 rfl rfl (by show ¬ (_ ∨ _); decide) dX3_timesOf_18 ?_
  refine lv_topl (fun x_1 ex_1 => ?_)
  obtain rfl : x_1 = 0 := ex_1.trans (by first | rfl | decide)
  refine lv_l2i (v := 0) hx hb dX3_timesOf_19 (by decide) ?_
  refine lv_goto (tgt := 24) hx hb dX3_timesOf_20 (by decide) ?_
  refine W.widen (k := 0) (n := 0) (Nat.le_of_ble_eq_true rfl) (Nat.le_of_ble_eq_true rfl) ?_
  exact W.iret (v := 0) hx hb hr (fun t ht hW => ⟨⟨0, (), rfl, rfl, trivial⟩, hS.F ht⟩) hS.2.2 dX3_timesOf_24
set_option maxHeartbeats 4000000 in
set_option maxRecDepth 100000 in
theorem c_X3_timesOf_t4_2 (l : Launch) (dC : Nat → ClassId) (dI : Nat → Nat → Nat) (cB cI cJ : ClassId) (sz : Nat) (xHan hH hR hT hM : Nat) : Met l yX3_timesOf wsX3_timesOf ({ frames := 1, cells := 0, slots := 0, locals := 24 }) (va_Pc [.ref xHan, .int 2] (fun U => U.heap.size = sz ∧ va_P (dC, dI) vwCl [(xHan, .inr (3, [.int 0, .int 4, .int 1, .ref hH, .ref hR, .ref hT, .ref hM])), (hM, .inl (cJ, 6, (.inr (.inl (vp_updL (fun _ => 0) (0 : Int32).toNatClampNeg 1)))))] U.heap ∧ va_K (dC, dI) vwCl [(cB, .byte), (cI, .int), (cJ, .long)] U ∧ va_D (fun _ => True) [(xHan, .inr (3, [.int 0, .int 4, .int 1, .ref hH, .ref hR, .ref hT, .ref hM])), (hM, .inl (cJ, 6, (.inr (.inl (vp_updL (fun _ => 0) (0 : Int32).toNatClampNeg 1)))))])) (va_Qi (fun (r : Int32) (_ : Unit) => r = 0) (fun _ _ => True) (va_A [(xHan, .inr (3, [.int 0, .int 4, .int 1, .ref hH, .ref hR, .ref hT, .ref hM])), (hM, .inl (cJ, 6, (.inr (.inl (vp_updL (fun _ => 0) (0 : Int32).toNatClampNeg 1)))))] sz)) 0 0 (va_A [(xHan, .inr (3, [.int 0, .int 4, .int 1, .ref hH, .ref hR, .ref hT, .ref hM])), (hM, .inl (cJ, 6, (.inr (.inl (vp_updL (fun _ => 0) (0 : Int32).toNatClampNeg 1)))))] sz) := by
  refine Met.ofW (cc := cX3_timesOf) (maxL := 2) (ret := (some .int)) (by decide) rfl ?_
  intro p e s m args below meth c s₁ B hml hv
  obtain ⟨rfl, hsz, hP, hK, hD0⟩ := hv
  have hx := B.exec
  have hb := B.bytes
  have hr := B.returns
  have hts := atoms_spec (ws := wsX3_timesOf) B.pre
  have hown : s.vm.findClass RX3 = some m.cls := findClass_of_methodNamed B.named
  have hlocks := B.notSynchronized
  have hiX3 : ∀ w ∈ u_ws RX3 TX3 7, w ∈ wsX3_timesOf := by decide +kernel
  subst hsz
  have hD := hD0.self (sz := s.heap.size)
  generalize hAe : va_A [(xHan, .inr (3, [.int 0, .int 4, .int 1, .ref hH, .ref hR, .ref hT, .ref hM])), (hM, .inl (cJ, 6, (.inr (.inl (vp_updL (fun _ => 0) (0 : Int32).toNatClampNeg 1)))))] s.heap.size = A at hD ⊢
  have hA : ∀ q : Nat, s.heap.size ≤ q → A q := fun q h => by rw [← hAe]; exact Or.inr h
  have hS : va_S A s.heap s.heap [] := va_S.rf
  have hP : va_P (dC, dI) vwCl [(xHan, .inr (3, [.int 0, .int 4, .int 1, .ref hH, .ref hR, .ref hT, .ref hM])), (hM, .inl (cJ, 6, (.inr (.inl (vp_updL (fun _ => 0) (0 : Int32).toNatClampNeg 1)))))] s.heap := hP
  have hl := lv_entry ([.ref xHan, .int 2]) (n := 2) (Nat.le_of_ble_eq_true rfl)
  rw [lg_entry_eq]
  generalize (lg_sl ([.ref xHan, .int 2]) ++ List.replicate (2 - (lg_sl ([.ref xHan, .int 2])).length) Slot.unset).toArray = ls at hl ⊢
  have hl : lv_has ls 2 [(0, .ref xHan), (1, .int 2)] := hl
  refine lv_iload_n hx hb dX3_timesOf_0 rfl (lv_at hl 1 rfl) ?_
  refine lv_if_lt (tgt := 23) hx hb dX3_timesOf_1 (by decide) (fun c => absurd c (by decide)) (fun _ => ?_)
  refine lv_iload_n hx hb dX3_timesOf_4 rfl (lv_at hl 1 rfl) ?_
  refine lv_aload_n hx hb dX3_timesOf_5 rfl (lv_at hl 0 rfl) ?_
  refine va_get (D := (dC, dI)) (ci := 3) (v := .ref hM) (C := RX3) (T := TX3) (N := 7) hx hb hts hiX3 hown hK hP 0 rfl rfl 6 (by decide) (hts (.fieldLink RX3 22 "ScissorsTable$Hang" "times" "[J") (by decide +kernel)) (fun _ h9 => h9) rfl dX3_timesOf_6 ?_
  refine va_alen (v := 6) hx hb hK hP 1 2 rfl rfl rfl dX3_timesOf_9 ?_
  refine lv_icmp_ge (tgt := 23) hx hb dX3_timesOf_10 (by decide) (fun c => absurd c (by decide)) (fun _ => ?_)
  refine lv_aload_n hx hb dX3_timesOf_13 rfl (lv_at hl 0 rfl) ?_
  refine va_get (D := (dC, dI)) (ci := 3) (v := .ref hM) (C := RX3) (T := TX3) (N := 7) hx hb hts hiX3 hown hK hP 0 rfl rfl 6 (by decide) (hts (.fieldLink RX3 22 "ScissorsTable$Hang" "times" "[J") (by decide +kernel)) (fun _ h9 => h9) rfl dX3_timesOf_14 ?_
  refine lv_iload_n hx hb dX3_timesOf_17 rfl (lv_at hl 1 rfl) ?_
  refine va_lald hx hb hK hP 1 2 rfl rfl (by show ¬ (_ ∨ _); decide) dX3_timesOf_18 ?_
  refine lv_topl (fun x_1 ex_1 => ?_)
  obtain rfl : x_1 = 0 := ex_1.trans (by first | rfl | decide)
  refine lv_l2i (v := 0) hx hb dX3_timesOf_19 (by decide) ?_
  refine lv_goto (tgt := 24) hx hb dX3_timesOf_20 (by decide) ?_
  refine W.widen (k := 0) (n := 0) (Nat.le_of_ble_eq_true rfl) (Nat.le_of_ble_eq_true rfl) ?_
  exact W.iret (v := 0) hx hb hr (fun t ht hW => ⟨⟨0, (), rfl, rfl, trivial⟩, hS.F ht⟩) hS.2.2 dX3_timesOf_24
set_option maxHeartbeats 4000000 in
set_option maxRecDepth 100000 in
theorem c_X3_timesOf_t4_3 (l : Launch) (dC : Nat → ClassId) (dI : Nat → Nat → Nat) (cB cI cJ : ClassId) (sz : Nat) (xHan hH hR hT hM : Nat) : Met l yX3_timesOf wsX3_timesOf ({ frames := 1, cells := 0, slots := 0, locals := 24 }) (va_Pc [.ref xHan, .int 3] (fun U => U.heap.size = sz ∧ va_P (dC, dI) vwCl [(xHan, .inr (3, [.int 0, .int 4, .int 1, .ref hH, .ref hR, .ref hT, .ref hM])), (hM, .inl (cJ, 6, (.inr (.inl (vp_updL (fun _ => 0) (0 : Int32).toNatClampNeg 1)))))] U.heap ∧ va_K (dC, dI) vwCl [(cB, .byte), (cI, .int), (cJ, .long)] U ∧ va_D (fun _ => True) [(xHan, .inr (3, [.int 0, .int 4, .int 1, .ref hH, .ref hR, .ref hT, .ref hM])), (hM, .inl (cJ, 6, (.inr (.inl (vp_updL (fun _ => 0) (0 : Int32).toNatClampNeg 1)))))])) (va_Qi (fun (r : Int32) (_ : Unit) => r = 0) (fun _ _ => True) (va_A [(xHan, .inr (3, [.int 0, .int 4, .int 1, .ref hH, .ref hR, .ref hT, .ref hM])), (hM, .inl (cJ, 6, (.inr (.inl (vp_updL (fun _ => 0) (0 : Int32).toNatClampNeg 1)))))] sz)) 0 0 (va_A [(xHan, .inr (3, [.int 0, .int 4, .int 1, .ref hH, .ref hR, .ref hT, .ref hM])), (hM, .inl (cJ, 6, (.inr (.inl (vp_updL (fun _ => 0) (0 : Int32).toNatClampNeg 1)))))] sz) := by
  refine Met.ofW (cc := cX3_timesOf) (maxL := 2) (ret := (some .int)) (by decide) rfl ?_
  intro p e s m args below meth c s₁ B hml hv
  obtain ⟨rfl, hsz, hP, hK, hD0⟩ := hv
  have hx := B.exec
  have hb := B.bytes
  have hr := B.returns
  have hts := atoms_spec (ws := wsX3_timesOf) B.pre
  have hown : s.vm.findClass RX3 = some m.cls := findClass_of_methodNamed B.named
  have hlocks := B.notSynchronized
  have hiX3 : ∀ w ∈ u_ws RX3 TX3 7, w ∈ wsX3_timesOf := by decide +kernel
  subst hsz
  have hD := hD0.self (sz := s.heap.size)
  generalize hAe : va_A [(xHan, .inr (3, [.int 0, .int 4, .int 1, .ref hH, .ref hR, .ref hT, .ref hM])), (hM, .inl (cJ, 6, (.inr (.inl (vp_updL (fun _ => 0) (0 : Int32).toNatClampNeg 1)))))] s.heap.size = A at hD ⊢
  have hA : ∀ q : Nat, s.heap.size ≤ q → A q := fun q h => by rw [← hAe]; exact Or.inr h
  have hS : va_S A s.heap s.heap [] := va_S.rf
  have hP : va_P (dC, dI) vwCl [(xHan, .inr (3, [.int 0, .int 4, .int 1, .ref hH, .ref hR, .ref hT, .ref hM])), (hM, .inl (cJ, 6, (.inr (.inl (vp_updL (fun _ => 0) (0 : Int32).toNatClampNeg 1)))))] s.heap := hP
  have hl := lv_entry ([.ref xHan, .int 3]) (n := 2) (Nat.le_of_ble_eq_true rfl)
  rw [lg_entry_eq]
  generalize (lg_sl ([.ref xHan, .int 3]) ++ List.replicate (2 - (lg_sl ([.ref xHan, .int 3])).length) Slot.unset).toArray = ls at hl ⊢
  have hl : lv_has ls 2 [(0, .ref xHan), (1, .int 3)] := hl
  refine lv_iload_n hx hb dX3_timesOf_0 rfl (lv_at hl 1 rfl) ?_
  refine lv_if_lt (tgt := 23) hx hb dX3_timesOf_1 (by decide) (fun c => absurd c (by decide)) (fun _ => ?_)
  refine lv_iload_n hx hb dX3_timesOf_4 rfl (lv_at hl 1 rfl) ?_
  refine lv_aload_n hx hb dX3_timesOf_5 rfl (lv_at hl 0 rfl) ?_
  refine va_get (D := (dC, dI)) (ci := 3) (v := .ref hM) (C := RX3) (T := TX3) (N := 7) hx hb hts hiX3 hown hK hP 0 rfl rfl 6 (by decide) (hts (.fieldLink RX3 22 "ScissorsTable$Hang" "times" "[J") (by decide +kernel)) (fun _ h9 => h9) rfl dX3_timesOf_6 ?_
  refine va_alen (v := 6) hx hb hK hP 1 2 rfl rfl rfl dX3_timesOf_9 ?_
  refine lv_icmp_ge (tgt := 23) hx hb dX3_timesOf_10 (by decide) (fun c => absurd c (by decide)) (fun _ => ?_)
  refine lv_aload_n hx hb dX3_timesOf_13 rfl (lv_at hl 0 rfl) ?_
  refine va_get (D := (dC, dI)) (ci := 3) (v := .ref hM) (C := RX3) (T := TX3) (N := 7) hx hb hts hiX3 hown hK hP 0 rfl rfl 6 (by decide) (hts (.fieldLink RX3 22 "ScissorsTable$Hang" "times" "[J") (by decide +kernel)) (fun _ h9 => h9) rfl dX3_timesOf_14 ?_
  refine lv_iload_n hx hb dX3_timesOf_17 rfl (lv_at hl 1 rfl) ?_
  refine va_lald hx hb hK hP 1 2 rfl rfl (by show ¬ (_ ∨ _); decide) dX3_timesOf_18 ?_
  refine lv_topl (fun x_1 ex_1 => ?_)
  obtain rfl : x_1 = 0 := ex_1.trans (by first | rfl | decide)
  refine lv_l2i (v := 0) hx hb dX3_timesOf_19 (by decide) ?_
  refine lv_goto (tgt := 24) hx hb dX3_timesOf_20 (by decide) ?_
  refine W.widen (k := 0) (n := 0) (Nat.le_of_ble_eq_true rfl) (Nat.le_of_ble_eq_true rfl) ?_
  exact W.iret (v := 0) hx hb hr (fun t ht hW => ⟨⟨0, (), rfl, rfl, trivial⟩, hS.F ht⟩) hS.2.2 dX3_timesOf_24
set_option maxHeartbeats 4000000 in
set_option maxRecDepth 100000 in
theorem c_X10_rankOf (l : Launch) (dC : Nat → ClassId) (dI : Nat → Nat → Nat) (cB cI cJ : ClassId) (sz : Nat) (x0 xTape xReader xBag xBld xAng xSum xPik xHan xIns xShr xSta xTur sM sP sA hH hR hT hM : Nat) (p0 : Int32) : Met l yX10_rankOf wsX10_rankOf ({ frames := 6, cells := 0, slots := 0, locals := 140 }) (va_Pc [.ref x0, .int p0] (fun U => U.heap.size = sz ∧ va_P (dC, dI) vwCl [(x0, .inr (10, [.ref xTape, .ref xReader, .ref xBag, .ref xBld, .ref xAng, .ref xSum, .ref xPik, .int 0, .ref xHan, .ref xIns, .ref xShr, .ref xSta, .ref xTur])), (xSum, .inr (8, [.ref sM, .ref sP, .ref sA, .int 0])), (xHan, .inr (3, [.int 0, .int 0, .int 0, .ref hH, .ref hR, .ref hT, .ref hM])), (hH, .inl (cI, 7, (.inl (fun _ => 0)))), (hT, .inl (cJ, 7, (.inr (.inl (fun _ => 0))))), (hM, .inl (cJ, 6, (.inr (.inl (fun _ => 0)))))] U.heap ∧ va_K (dC, dI) vwCl [(cB, .byte), (cI, .int), (cJ, .long)] U ∧ va_D (fun _ => True) [(x0, .inr (10, [.ref xTape, .ref xReader, .ref xBag, .ref xBld, .ref xAng, .ref xSum, .ref xPik, .int 0, .ref xHan, .ref xIns, .ref xShr, .ref xSta, .ref xTur])), (xSum, .inr (8, [.ref sM, .ref sP, .ref sA, .int 0])), (xHan, .inr (3, [.int 0, .int 0, .int 0, .ref hH, .ref hR, .ref hT, .ref hM])), (hH, .inl (cI, 7, (.inl (fun _ => 0)))), (hT, .inl (cJ, 7, (.inr (.inl (fun _ => 0))))), (hM, .inl (cJ, 6, (.inr (.inl (fun _ => 0)))))] ∧ va_Nw (.methodLinkNest RX3 62 yX10_gcd "ScissorsTable") U)) (va_Qi (fun (r : Int32) (_ : Unit) => r = sp_rank p0) (fun _ _ => True) (va_A [(x0, .inr (10, [.ref xTape, .ref xReader, .ref xBag, .ref xBld, .ref xAng, .ref xSum, .ref xPik, .int 0, .ref xHan, .ref xIns, .ref xShr, .ref xSta, .ref xTur])), (xSum, .inr (8, [.ref sM, .ref sP, .ref sA, .int 0])), (xHan, .inr (3, [.int 0, .int 0, .int 0, .ref hH, .ref hR, .ref hT, .ref hM])), (hH, .inl (cI, 7, (.inl (fun _ => 0)))), (hT, .inl (cJ, 7, (.inr (.inl (fun _ => 0))))), (hM, .inl (cJ, 6, (.inr (.inl (fun _ => 0)))))] sz)) 0 0 (va_A [(x0, .inr (10, [.ref xTape, .ref xReader, .ref xBag, .ref xBld, .ref xAng, .ref xSum, .ref xPik, .int 0, .ref xHan, .ref xIns, .ref xShr, .ref xSta, .ref xTur])), (xSum, .inr (8, [.ref sM, .ref sP, .ref sA, .int 0])), (xHan, .inr (3, [.int 0, .int 0, .int 0, .ref hH, .ref hR, .ref hT, .ref hM])), (hH, .inl (cI, 7, (.inl (fun _ => 0)))), (hT, .inl (cJ, 7, (.inr (.inl (fun _ => 0))))), (hM, .inl (cJ, 6, (.inr (.inl (fun _ => 0)))))] sz) := by
  refine Met.ofW (cc := cX10_rankOf) (maxL := 2) (ret := (some .int)) (by decide) rfl ?_
  intro p e s m args below meth c s₁ B hml hv
  obtain ⟨rfl, hsz, hP, hK, hD0, hN0⟩ := hv
  have hx := B.exec
  have hb := B.bytes
  have hr := B.returns
  have hts := atoms_spec (ws := wsX10_rankOf) B.pre
  have hown : s.vm.findClass RX10 = some m.cls := findClass_of_methodNamed B.named
  have hlocks := B.notSynchronized
  have hiX10 : ∀ w ∈ u_ws RX10 TX10 13, w ∈ wsX10_rankOf := by decide +kernel
  have hiX3 : ∀ w ∈ u_ws RX3 TX3 7, w ∈ wsX10_rankOf := by decide +kernel
  subst hsz
  have hD := hD0.self (sz := s.heap.size)
  generalize hAe : va_A [(x0, .inr (10, [.ref xTape, .ref xReader, .ref xBag, .ref xBld, .ref xAng, .ref xSum, .ref xPik, .int 0, .ref xHan, .ref xIns, .ref xShr, .ref xSta, .ref xTur])), (xSum, .inr (8, [.ref sM, .ref sP, .ref sA, .int 0])), (xHan, .inr (3, [.int 0, .int 0, .int 0, .ref hH, .ref hR, .ref hT, .ref hM])), (hH, .inl (cI, 7, (.inl (fun _ => 0)))), (hT, .inl (cJ, 7, (.inr (.inl (fun _ => 0))))), (hM, .inl (cJ, 6, (.inr (.inl (fun _ => 0)))))] s.heap.size = A at hD ⊢
  have hA : ∀ q : Nat, s.heap.size ≤ q → A q := fun q h => by rw [← hAe]; exact Or.inr h
  have hS : va_S A s.heap s.heap [] := va_S.rf
  have hP : va_P (dC, dI) vwCl [(x0, .inr (10, [.ref xTape, .ref xReader, .ref xBag, .ref xBld, .ref xAng, .ref xSum, .ref xPik, .int 0, .ref xHan, .ref xIns, .ref xShr, .ref xSta, .ref xTur])), (xSum, .inr (8, [.ref sM, .ref sP, .ref sA, .int 0])), (xHan, .inr (3, [.int 0, .int 0, .int 0, .ref hH, .ref hR, .ref hT, .ref hM])), (hH, .inl (cI, 7, (.inl (fun _ => 0)))), (hT, .inl (cJ, 7, (.inr (.inl (fun _ => 0))))), (hM, .inl (cJ, 6, (.inr (.inl (fun _ => 0)))))] s.heap := hP
  have hl := lv_entry ([.ref x0, .int p0]) (n := 2) (Nat.le_of_ble_eq_true rfl)
  rw [lg_entry_eq]
  generalize (lg_sl ([.ref x0, .int p0]) ++ List.replicate (2 - (lg_sl ([.ref x0, .int p0])).length) Slot.unset).toArray = ls at hl ⊢
  have hl : lv_has ls 2 [(0, .ref x0), (1, .int p0)] := hl
  refine lv_iload_n hx hb dX10_rankOf_0 rfl (lv_at hl 1 rfl) ?_
  have hPc := hP.sub (ws' := []) [] rfl
  have hDc := hD.sub (ws' := []) [] (by decide) rfl
  have hFc := va_free (wc := []) hD hS hA [] rfl
  refine va_calli (va_runS (As := [.int p0]) (rest := []) ⟨hx, hb, hml, hown, hts⟩ (c_X10_isSetOfSolids l dC dI cB cI cJ s.heap.size p0) (va_cwS 1 hts gX10_rankOf_X10_isSetOfSolids rfl rfl rfl (by decide +kernel) ⟨Nat.le_of_ble_eq_true rfl, Nat.le_of_ble_eq_true rfl⟩) ⟨fun a U g mk q => by obtain ⟨q0, q1, qP, qK, qD⟩ := q; exact ⟨q0, q1, qP, va_K.moved (u := U) (U := U.calling g mk a) (Vm.Alike.refl U.vm) qK, qD⟩, fun U hU hW => ⟨rfl, by rw [hU], by rw [hU]; exact hPc, va_K.moved hW.alike hK, hDc.weaken (fun _ _ _ _ => trivial)⟩⟩ rfl rfl hl.1 rfl (lv_room (Nat.le_of_ble_eq_true rfl)) dX10_rankOf_1 ⟨Nat.le_of_ble_eq_true rfl, Nat.le_of_ble_eq_true rfl⟩) hS (fun q _ h => hFc q h) hFc (fun r_1 u t H1 locs ht hvm hw hB hz1 hk1 hS => ?_)
  have hP1 : va_P (dC, dI) vwCl [] H1 := fun k q h => by simp at h
  have hD1 : va_D (va_A [] s.heap.size) [] := ⟨fun i j p q h => by simp at h, fun k q h => by simp at h⟩
  obtain ⟨hP, hD⟩ := va_join (wr := [(x0, .inr (10, [.ref xTape, .ref xReader, .ref xBag, .ref xBld, .ref xAng, .ref xSum, .ref xPik, .int 0, .ref xHan, .ref xIns, .ref xShr, .ref xSta, .ref xTur])), (xSum, .inr (8, [.ref sM, .ref sP, .ref sA, .int 0])), (xHan, .inr (3, [.int 0, .int 0, .int 0, .ref hH, .ref hR, .ref hT, .ref hM])), (hH, .inl (cI, 7, (.inl (fun _ => 0)))), (hT, .inl (cJ, 7, (.inr (.inl (fun _ => 0))))), (hM, .inl (cJ, 6, (.inr (.inl (fun _ => 0)))))]) (w1 := []) hP hD [] [0, 1, 2, 3, 4, 5] rfl rfl (by decide) (by decide) hk1 hFc hP1 hD1
  generalize H1 = H at hP hS ⊢
  have hP : va_P (dC, dI) vwCl [(x0, .inr (10, [.ref xTape, .ref xReader, .ref xBag, .ref xBld, .ref xAng, .ref xSum, .ref xPik, .int 0, .ref xHan, .ref xIns, .ref xShr, .ref xSta, .ref xTur])), (xSum, .inr (8, [.ref sM, .ref sP, .ref sA, .int 0])), (xHan, .inr (3, [.int 0, .int 0, .int 0, .ref hH, .ref hR, .ref hT, .ref hM])), (hH, .inl (cI, 7, (.inl (fun _ => 0)))), (hT, .inl (cJ, 7, (.inr (.inl (fun _ => 0))))), (hM, .inl (cJ, 6, (.inr (.inl (fun _ => 0)))))] H := hP
  have hD : va_D A [(x0, .inr (10, [.ref xTape, .ref xReader, .ref xBag, .ref xBld, .ref xAng, .ref xSum, .ref xPik, .int 0, .ref xHan, .ref xIns, .ref xShr, .ref xSta, .ref xTur])), (xSum, .inr (8, [.ref sM, .ref sP, .ref sA, .int 0])), (xHan, .inr (3, [.int 0, .int 0, .int 0, .ref hH, .ref hR, .ref hT, .ref hM])), (hH, .inl (cI, 7, (.inl (fun _ => 0)))), (hT, .inl (cJ, 7, (.inr (.inl (fun _ => 0))))), (hM, .inl (cJ, 6, (.inr (.inl (fun _ => 0)))))] := hD
  rcases hw with ⟨rfl, k_2⟩ | ⟨rfl, k_2⟩
  · refine lv_if_ne (tgt := 9) hx hb dX10_rankOf_4 (by decide) (fun c => absurd (by decide) c) (fun _ => ?_)
    refine lv_iconst (v := (-1)) hx hb dX10_rankOf_7 (by decide) ?_
    refine W.widen (k := 0) (n := 0) (Nat.le_of_ble_eq_true rfl) (Nat.le_of_ble_eq_true rfl) ?_
    exact W.iret (v := (-1)) hx hb hr (fun t ht hW => ⟨⟨(-1), (), rfl, (by (try simp only [nk_lt, nk_le, nk_eq, nk_wd, nk_c0, nk_c1, nk_c2, nk_c3, nk_c4, nk_c5, nk_c6, nk_c15, nk_c16, nk_c24, nk_c47, nk_c48, nk_c600, nk_c1728, nk_m1, nk_l0, nk_l1, nk_l2, nk_l3, nk_l5, nk_l15, nk_l24, nk_l47] at k_2); (unfold sp_rank; first | rfl | decide | (rw [if_pos (by first | omega | (simp only [nk_lt, nk_le, nk_eq, nk_wd, nk_c0, nk_c1, nk_c2, nk_c3, nk_c4, nk_c5, nk_c6, nk_c15, nk_c16, nk_c24, nk_c47, nk_c48, nk_c600, nk_c1728, nk_m1, nk_l0, nk_l1, nk_l2, nk_l3, nk_l5, nk_l15, nk_l24, nk_l47]; omega) | (simp only [nk_lt, nk_le, nk_eq, nk_wd, nk_c0, nk_c1, nk_c2, nk_c3, nk_c4, nk_c5, nk_c6, nk_c15, nk_c16, nk_c24, nk_c47, nk_c48, nk_c600, nk_c1728, nk_m1, nk_l0, nk_l1, nk_l2, nk_l3, nk_l5, nk_l15, nk_l24, nk_l47]; done))]) | (rw [if_neg (by first | omega | (simp only [nk_lt, nk_le, nk_eq, nk_wd, nk_c0, nk_c1, nk_c2, nk_c3, nk_c4, nk_c5, nk_c6, nk_c15, nk_c16, nk_c24, nk_c47, nk_c48, nk_c600, nk_c1728, nk_m1, nk_l0, nk_l1, nk_l2, nk_l3, nk_l5, nk_l15, nk_l24, nk_l47]; omega) | (simp only [nk_lt, nk_le, nk_eq, nk_wd, nk_c0, nk_c1, nk_c2, nk_c3, nk_c4, nk_c5, nk_c6, nk_c15, nk_c16, nk_c24, nk_c47, nk_c48, nk_c600, nk_c1728, nk_m1, nk_l0, nk_l1, nk_l2, nk_l3, nk_l5, nk_l15, nk_l24, nk_l47]; done))]))), trivial⟩, hS.F ht⟩) hS.2.2 dX10_rankOf_8
  · refine lv_if_ne (tgt := 9) hx hb dX10_rankOf_4 (by decide) (fun _ => ?_) (fun c => absurd c (by decide))
    rcases nk_split16 p0 (by (try simp only [nk_lt, nk_le, nk_eq, nk_wd, nk_c0, nk_c1, nk_c2, nk_c3, nk_c4, nk_c5, nk_c6, nk_c15, nk_c16, nk_c24, nk_c47, nk_c48, nk_c600, nk_c1728, nk_m1, nk_l0, nk_l1, nk_l2, nk_l3, nk_l5, nk_l15, nk_l24, nk_l47] at k_2); omega) with rfl | rfl | rfl | rfl | rfl | rfl | rfl | rfl | rfl | rfl | rfl | rfl | rfl | rfl | rfl | rfl
    · refine lv_aload_n hx hb dX10_rankOf_9 rfl (lv_at hl 0 rfl) ?_
      refine lv_iload_n hx hb dX10_rankOf_10 rfl (lv_at hl 1 rfl) ?_
      have hPc := hP.sub (ws' := [(x0, .inr (10, [.ref xTape, .ref xReader, .ref xBag, .ref xBld, .ref xAng, .ref xSum, .ref xPik, .int 0, .ref xHan, .ref xIns, .ref xShr, .ref xSta, .ref xTur])), (xHan, .inr (3, [.int 0, .int 0, .int 0, .ref hH, .ref hR, .ref hT, .ref hM]))]) [0, 2] rfl
      have hDc := hD.sub (ws' := [(x0, .inr (10, [.ref xTape, .ref xReader, .ref xBag, .ref xBld, .ref xAng, .ref xSum, .ref xPik, .int 0, .ref xHan, .ref xIns, .ref xShr, .ref xSta, .ref xTur])), (xHan, .inr (3, [.int 0, .int 0, .int 0, .ref hH, .ref hR, .ref hT, .ref hM]))]) [0, 2] (by decide) rfl
      have hFc := va_free (wc := [(x0, .inr (10, [.ref xTape, .ref xReader, .ref xBag, .ref xBld, .ref xAng, .ref xSum, .ref xPik, .int 0, .ref xHan, .ref xIns, .ref xShr, .ref xSta, .ref xTur])), (xHan, .inr (3, [.int 0, .int 0, .int 0, .ref hH, .ref hR, .ref hT, .ref hM]))]) hD hS hA [0, 2] rfl
      refine va_callv (va_runV (As := [.int 0]) (rest := []) ⟨hx, hb, hml, hown, hts⟩ (c_X10_hangSolids_0 l dC dI cB cI cJ H.size x0 xTape xReader xBag xBld xAng xSum xPik xHan xIns xShr xSta xTur hH hR hT hM) (cwV 1 hts gX10_rankOf_X10_hangSolids rfl rfl rfl (by decide +kernel) ⟨Nat.le_of_ble_eq_true rfl, Nat.le_of_ble_eq_true rfl⟩) ⟨fun a U g mk q => by obtain ⟨q0, q1, qP, qK, qD⟩ := q; exact ⟨q0, q1, qP, va_K.moved (u := U) (U := U.calling g mk a) (Vm.Alike.refl U.vm) qK, qD⟩, va_recv hK hP (ci := 10) (q0 := 0) rfl rfl, fun U hU hW => ⟨rfl, by rw [hU], by rw [hU]; exact hPc, va_K.moved hW.alike hK, hDc.weaken (fun _ _ _ _ => trivial)⟩⟩ rfl rfl hl.1 rfl (lv_room (Nat.le_of_ble_eq_true rfl)) dX10_rankOf_11 ⟨Nat.le_of_ble_eq_true rfl, Nat.le_of_ble_eq_true rfl⟩) hS (fun q _ h => hFc q h) hFc (fun u t H1 locs ht hvm hw hB hz1 hk1 hS => ?_)
      obtain ⟨hP1, hK1, hD1⟩ := hB
      rw [ht] at hP1
      obtain ⟨hP, hD⟩ := va_join (wr := [(xSum, .inr (8, [.ref sM, .ref sP, .ref sA, .int 0])), (hH, .inl (cI, 7, (.inl (fun _ => 0)))), (hT, .inl (cJ, 7, (.inr (.inl (fun _ => 0))))), (hM, .inl (cJ, 6, (.inr (.inl (fun _ => 0)))))]) (w1 := [(x0, .inr (10, [.ref xTape, .ref xReader, .ref xBag, .ref xBld, .ref xAng, .ref xSum, .ref xPik, .int 0, .ref xHan, .ref xIns, .ref xShr, .ref xSta, .ref xTur])), (xHan, .inr (3, [.int 0, .int 0, .int 0, .ref hH, .ref hR, .ref hT, .ref hM]))]) hP hD [0, 2] [1, 3, 4, 5] rfl rfl (by decide) (by decide) hk1 hFc hP1 hD1
      generalize H1 = H at hP hS ⊢
      have hP : va_P (dC, dI) vwCl [(xSum, .inr (8, [.ref sM, .ref sP, .ref sA, .int 0])), (hH, .inl (cI, 7, (.inl (fun _ => 0)))), (hT, .inl (cJ, 7, (.inr (.inl (fun _ => 0))))), (hM, .inl (cJ, 6, (.inr (.inl (fun _ => 0))))), (x0, .inr (10, [.ref xTape, .ref xReader, .ref xBag, .ref xBld, .ref xAng, .ref xSum, .ref xPik, .int 0, .ref xHan, .ref xIns, .ref xShr, .ref xSta, .ref xTur])), (xHan, .inr (3, [.int 0, .int 0, .int 0, .ref hH, .ref hR, .ref hT, .ref hM]))] H := hP
      have hD : va_D A [(xSum, .inr (8, [.ref sM, .ref sP, .ref sA, .int 0])), (hH, .inl (cI, 7, (.inl (fun _ => 0)))), (hT, .inl (cJ, 7, (.inr (.inl (fun _ => 0))))), (hM, .inl (cJ, 6, (.inr (.inl (fun _ => 0))))), (x0, .inr (10, [.ref xTape, .ref xReader, .ref xBag, .ref xBld, .ref xAng, .ref xSum, .ref xPik, .int 0, .ref xHan, .ref xIns, .ref xShr, .ref xSta, .ref xTur])), (xHan, .inr (3, [.int 0, .int 0, .int 0, .ref hH, .ref hR, .ref hT, .ref hM]))] := hD
      refine lv_aload_n hx hb dX10_rankOf_14 rfl (lv_at hl 0 rfl) ?_
      refine va_get (D := (dC, dI)) (ci := 10) (v := .ref xHan) (C := RX10) (T := TX10) (N := 13) hx hb hts hiX10 hown hK hP 4 rfl rfl 8 (by decide) (hts (.fieldLink RX10 61 "ScissorsTable" "hang" "LScissorsTable$Hang;") (by decide +kernel)) (fun _ h9 => h9) rfl dX10_rankOf_15 ?_
      refine va_get (D := (dC, dI)) (ci := 3) (v := .int 0) (C := RX3) (T := TX3) (N := 7) hx hb hts hiX3 hown hK hP 5 rfl rfl 0 (by decide) (hts (.fieldLink RX10 313 "ScissorsTable$Hang" "rank" "I") (by decide +kernel)) (fun _ h9 => h9) rfl dX10_rankOf_18 ?_
      refine W.widen (k := 0) (n := 0) (Nat.le_of_ble_eq_true rfl) (Nat.le_of_ble_eq_true rfl) ?_
      exact W.iret (v := 0) hx hb hr (fun t ht hW => ⟨⟨0, (), rfl, (by decide), trivial⟩, hS.F ht⟩) hS.2.2 dX10_rankOf_21
    · refine lv_aload_n hx hb dX10_rankOf_9 rfl (lv_at hl 0 rfl) ?_
      refine lv_iload_n hx hb dX10_rankOf_10 rfl (lv_at hl 1 rfl) ?_
      have hPc := hP.sub (ws' := [(x0, .inr (10, [.ref xTape, .ref xReader, .ref xBag, .ref xBld, .ref xAng, .ref xSum, .ref xPik, .int 0, .ref xHan, .ref xIns, .ref xShr, .ref xSta, .ref xTur])), (xSum, .inr (8, [.ref sM, .ref sP, .ref sA, .int 0])), (xHan, .inr (3, [.int 0, .int 0, .int 0, .ref hH, .ref hR, .ref hT, .ref hM])), (hH, .inl (cI, 7, (.inl (fun _ => 0)))), (hT, .inl (cJ, 7, (.inr (.inl (fun _ => 0))))), (hM, .inl (cJ, 6, (.inr (.inl (fun _ => 0)))))]) [0, 1, 2, 3, 4, 5] rfl
      have hDc := hD.sub (ws' := [(x0, .inr (10, [.ref xTape, .ref xReader, .ref xBag, .ref xBld, .ref xAng, .ref xSum, .ref xPik, .int 0, .ref xHan, .ref xIns, .ref xShr, .ref xSta, .ref xTur])), (xSum, .inr (8, [.ref sM, .ref sP, .ref sA, .int 0])), (xHan, .inr (3, [.int 0, .int 0, .int 0, .ref hH, .ref hR, .ref hT, .ref hM])), (hH, .inl (cI, 7, (.inl (fun _ => 0)))), (hT, .inl (cJ, 7, (.inr (.inl (fun _ => 0))))), (hM, .inl (cJ, 6, (.inr (.inl (fun _ => 0)))))]) [0, 1, 2, 3, 4, 5] (by decide) rfl
      have hFc := va_free (wc := [(x0, .inr (10, [.ref xTape, .ref xReader, .ref xBag, .ref xBld, .ref xAng, .ref xSum, .ref xPik, .int 0, .ref xHan, .ref xIns, .ref xShr, .ref xSta, .ref xTur])), (xSum, .inr (8, [.ref sM, .ref sP, .ref sA, .int 0])), (xHan, .inr (3, [.int 0, .int 0, .int 0, .ref hH, .ref hR, .ref hT, .ref hM])), (hH, .inl (cI, 7, (.inl (fun _ => 0)))), (hT, .inl (cJ, 7, (.inr (.inl (fun _ => 0))))), (hM, .inl (cJ, 6, (.inr (.inl (fun _ => 0)))))]) hD hS hA [0, 1, 2, 3, 4, 5] rfl
      refine va_callv (va_runV (As := [.int 1]) (rest := []) ⟨hx, hb, hml, hown, hts⟩ (c_X10_hangSolids_1 l dC dI cB cI cJ H.size x0 xTape xReader xBag xBld xAng xSum xPik xHan xIns xShr xSta xTur sM sP sA hH hR hT hM (fun _ => 0) (fun _ => 0)) (cwV 1 hts gX10_rankOf_X10_hangSolids rfl rfl rfl (by decide +kernel) ⟨Nat.le_of_ble_eq_true rfl, Nat.le_of_ble_eq_true rfl⟩) ⟨fun a U g mk q => by obtain ⟨q0, q1, qP, qK, qD, qN0⟩ := q; exact ⟨q0, q1, qP, va_K.moved (u := U) (U := U.calling g mk a) (Vm.Alike.refl U.vm) qK, qD, va_Nw.same rfl rfl qN0⟩, va_recv hK hP (ci := 10) (q0 := 0) rfl rfl, fun U hU hW => ⟨rfl, by rw [hU], by rw [hU]; exact hPc, va_K.moved hW.alike hK, hDc.weaken (fun _ _ _ _ => trivial), va_Nw.warmM hW hN0⟩⟩ rfl rfl hl.1 rfl (lv_room (Nat.le_of_ble_eq_true rfl)) dX10_rankOf_11 ⟨Nat.le_of_ble_eq_true rfl, Nat.le_of_ble_eq_true rfl⟩) hS (fun q _ h => hFc q h) hFc (fun u t H1 locs ht hvm hw hB hz1 hk1 hS => ?_)
      obtain ⟨hP1, hK1, hD1⟩ := hB
      rw [ht] at hP1
      obtain ⟨hP, hD⟩ := va_join (wr := []) (w1 := [(x0, .inr (10, [.ref xTape, .ref xReader, .ref xBag, .ref xBld, .ref xAng, .ref xSum, .ref xPik, .int 0, .ref xHan, .ref xIns, .ref xShr, .ref xSta, .ref xTur])), (xHan, .inr (3, [.int 0, .int 1, .int 1, .ref hH, .ref hR, .ref hT, .ref hM])), (xSum, .inr (8, [.ref sM, .ref sP, .ref sA, .int 0])), (hH, .inl (cI, 7, (.inl (upd (fun _ => 0) (0 : Int32).toNatClampNeg 0)))), (hT, .inl (cJ, 7, (.inr (.inl (vp_updL (fun _ => 0) (0 : Int32).toNatClampNeg 1))))), (hM, .inl (cJ, 6, (.inr (.inl (vp_updL (fun _ => 0) (0 : Int32).toNatClampNeg 1)))))]) hP hD [0, 1, 2, 3, 4, 5] [] rfl rfl (by decide) (by decide) hk1 hFc hP1 hD1
      generalize H1 = H at hP hS ⊢
      have hP : va_P (dC, dI) vwCl [(x0, .inr (10, [.ref xTape, .ref xReader, .ref xBag, .ref xBld, .ref xAng, .ref xSum, .ref xPik, .int 0, .ref xHan, .ref xIns, .ref xShr, .ref xSta, .ref xTur])), (xHan, .inr (3, [.int 0, .int 1, .int 1, .ref hH, .ref hR, .ref hT, .ref hM])), (xSum, .inr (8, [.ref sM, .ref sP, .ref sA, .int 0])), (hH, .inl (cI, 7, (.inl (upd (fun _ => 0) (0 : Int32).toNatClampNeg 0)))), (hT, .inl (cJ, 7, (.inr (.inl (vp_updL (fun _ => 0) (0 : Int32).toNatClampNeg 1))))), (hM, .inl (cJ, 6, (.inr (.inl (vp_updL (fun _ => 0) (0 : Int32).toNatClampNeg 1)))))] H := hP
      have hD : va_D A [(x0, .inr (10, [.ref xTape, .ref xReader, .ref xBag, .ref xBld, .ref xAng, .ref xSum, .ref xPik, .int 0, .ref xHan, .ref xIns, .ref xShr, .ref xSta, .ref xTur])), (xHan, .inr (3, [.int 0, .int 1, .int 1, .ref hH, .ref hR, .ref hT, .ref hM])), (xSum, .inr (8, [.ref sM, .ref sP, .ref sA, .int 0])), (hH, .inl (cI, 7, (.inl (upd (fun _ => 0) (0 : Int32).toNatClampNeg 0)))), (hT, .inl (cJ, 7, (.inr (.inl (vp_updL (fun _ => 0) (0 : Int32).toNatClampNeg 1))))), (hM, .inl (cJ, 6, (.inr (.inl (vp_updL (fun _ => 0) (0 : Int32).toNatClampNeg 1)))))] := hD
      refine lv_aload_n hx hb dX10_rankOf_14 rfl (lv_at hl 0 rfl) ?_
      refine va_get (D := (dC, dI)) (ci := 10) (v := .ref xHan) (C := RX10) (T := TX10) (N := 13) hx hb hts hiX10 hown hK hP 0 rfl rfl 8 (by decide) (hts (.fieldLink RX10 61 "ScissorsTable" "hang" "LScissorsTable$Hang;") (by decide +kernel)) (fun _ h9 => h9) rfl dX10_rankOf_15 ?_
      refine va_get (D := (dC, dI)) (ci := 3) (v := .int 0) (C := RX3) (T := TX3) (N := 7) hx hb hts hiX3 hown hK hP 1 rfl rfl 0 (by decide) (hts (.fieldLink RX10 313 "ScissorsTable$Hang" "rank" "I") (by decide +kernel)) (fun _ h9 => h9) rfl dX10_rankOf_18 ?_
      refine W.widen (k := 0) (n := 0) (Nat.le_of_ble_eq_true rfl) (Nat.le_of_ble_eq_true rfl) ?_
      exact W.iret (v := 0) hx hb hr (fun t ht hW => ⟨⟨0, (), rfl, (by decide), trivial⟩, hS.F ht⟩) hS.2.2 dX10_rankOf_21
    · refine lv_aload_n hx hb dX10_rankOf_9 rfl (lv_at hl 0 rfl) ?_
      refine lv_iload_n hx hb dX10_rankOf_10 rfl (lv_at hl 1 rfl) ?_
      have hPc := hP.sub (ws' := [(x0, .inr (10, [.ref xTape, .ref xReader, .ref xBag, .ref xBld, .ref xAng, .ref xSum, .ref xPik, .int 0, .ref xHan, .ref xIns, .ref xShr, .ref xSta, .ref xTur])), (xSum, .inr (8, [.ref sM, .ref sP, .ref sA, .int 0])), (xHan, .inr (3, [.int 0, .int 0, .int 0, .ref hH, .ref hR, .ref hT, .ref hM])), (hH, .inl (cI, 7, (.inl (fun _ => 0)))), (hT, .inl (cJ, 7, (.inr (.inl (fun _ => 0))))), (hM, .inl (cJ, 6, (.inr (.inl (fun _ => 0)))))]) [0, 1, 2, 3, 4, 5] rfl
      have hDc := hD.sub (ws' := [(x0, .inr (10, [.ref xTape, .ref xReader, .ref xBag, .ref xBld, .ref xAng, .ref xSum, .ref xPik, .int 0, .ref xHan, .ref xIns, .ref xShr, .ref xSta, .ref xTur])), (xSum, .inr (8, [.ref sM, .ref sP, .ref sA, .int 0])), (xHan, .inr (3, [.int 0, .int 0, .int 0, .ref hH, .ref hR, .ref hT, .ref hM])), (hH, .inl (cI, 7, (.inl (fun _ => 0)))), (hT, .inl (cJ, 7, (.inr (.inl (fun _ => 0))))), (hM, .inl (cJ, 6, (.inr (.inl (fun _ => 0)))))]) [0, 1, 2, 3, 4, 5] (by decide) rfl
      have hFc := va_free (wc := [(x0, .inr (10, [.ref xTape, .ref xReader, .ref xBag, .ref xBld, .ref xAng, .ref xSum, .ref xPik, .int 0, .ref xHan, .ref xIns, .ref xShr, .ref xSta, .ref xTur])), (xSum, .inr (8, [.ref sM, .ref sP, .ref sA, .int 0])), (xHan, .inr (3, [.int 0, .int 0, .int 0, .ref hH, .ref hR, .ref hT, .ref hM])), (hH, .inl (cI, 7, (.inl (fun _ => 0)))), (hT, .inl (cJ, 7, (.inr (.inl (fun _ => 0))))), (hM, .inl (cJ, 6, (.inr (.inl (fun _ => 0)))))]) hD hS hA [0, 1, 2, 3, 4, 5] rfl
      refine va_callv (va_runV (As := [.int 2]) (rest := []) ⟨hx, hb, hml, hown, hts⟩ (c_X10_hangSolids_2 l dC dI cB cI cJ H.size x0 xTape xReader xBag xBld xAng xSum xPik xHan xIns xShr xSta xTur sM sP sA hH hR hT hM (fun _ => 0) (fun _ => 0)) (cwV 1 hts gX10_rankOf_X10_hangSolids rfl rfl rfl (by decide +kernel) ⟨Nat.le_of_ble_eq_true rfl, Nat.le_of_ble_eq_true rfl⟩) ⟨fun a U g mk q => by obtain ⟨q0, q1, qP, qK, qD, qN0⟩ := q; exact ⟨q0, q1, qP, va_K.moved (u := U) (U := U.calling g mk a) (Vm.Alike.refl U.vm) qK, qD, va_Nw.same rfl rfl qN0⟩, va_recv hK hP (ci := 10) (q0 := 0) rfl rfl, fun U hU hW => ⟨rfl, by rw [hU], by rw [hU]; exact hPc, va_K.moved hW.alike hK, hDc.weaken (fun _ _ _ _ => trivial), va_Nw.warmM hW hN0⟩⟩ rfl rfl hl.1 rfl (lv_room (Nat.le_of_ble_eq_true rfl)) dX10_rankOf_11 ⟨Nat.le_of_ble_eq_true rfl, Nat.le_of_ble_eq_true rfl⟩) hS (fun q _ h => hFc q h) hFc (fun u t H1 locs ht hvm hw hB hz1 hk1 hS => ?_)
      obtain ⟨hP1, hK1, hD1⟩ := hB
      rw [ht] at hP1
      obtain ⟨hP, hD⟩ := va_join (wr := []) (w1 := [(x0, .inr (10, [.ref xTape, .ref xReader, .ref xBag, .ref xBld, .ref xAng, .ref xSum, .ref xPik, .int 0, .ref xHan, .ref xIns, .ref xShr, .ref xSta, .ref xTur])), (xHan, .inr (3, [.int 0, .int 1, .int 1, .ref hH, .ref hR, .ref hT, .ref hM])), (xSum, .inr (8, [.ref sM, .ref sP, .ref sA, .int 0])), (hH, .inl (cI, 7, (.inl (upd (fun _ => 0) (0 : Int32).toNatClampNeg 1)))), (hT, .inl (cJ, 7, (.inr (.inl (vp_updL (fun _ => 0) (0 : Int32).toNatClampNeg 1))))), (hM, .inl (cJ, 6, (.inr (.inl (vp_updL (fun _ => 0) (0 : Int32).toNatClampNeg 1)))))]) hP hD [0, 1, 2, 3, 4, 5] [] rfl rfl (by decide) (by decide) hk1 hFc hP1 hD1
      generalize H1 = H at hP hS ⊢
      have hP : va_P (dC, dI) vwCl [(x0, .inr (10, [.ref xTape, .ref xReader, .ref xBag, .ref xBld, .ref xAng, .ref xSum, .ref xPik, .int 0, .ref xHan, .ref xIns, .ref xShr, .ref xSta, .ref xTur])), (xHan, .inr (3, [.int 0, .int 1, .int 1, .ref hH, .ref hR, .ref hT, .ref hM])), (xSum, .inr (8, [.ref sM, .ref sP, .ref sA, .int 0])), (hH, .inl (cI, 7, (.inl (upd (fun _ => 0) (0 : Int32).toNatClampNeg 1)))), (hT, .inl (cJ, 7, (.inr (.inl (vp_updL (fun _ => 0) (0 : Int32).toNatClampNeg 1))))), (hM, .inl (cJ, 6, (.inr (.inl (vp_updL (fun _ => 0) (0 : Int32).toNatClampNeg 1)))))] H := hP
      have hD : va_D A [(x0, .inr (10, [.ref xTape, .ref xReader, .ref xBag, .ref xBld, .ref xAng, .ref xSum, .ref xPik, .int 0, .ref xHan, .ref xIns, .ref xShr, .ref xSta, .ref xTur])), (xHan, .inr (3, [.int 0, .int 1, .int 1, .ref hH, .ref hR, .ref hT, .ref hM])), (xSum, .inr (8, [.ref sM, .ref sP, .ref sA, .int 0])), (hH, .inl (cI, 7, (.inl (upd (fun _ => 0) (0 : Int32).toNatClampNeg 1)))), (hT, .inl (cJ, 7, (.inr (.inl (vp_updL (fun _ => 0) (0 : Int32).toNatClampNeg 1))))), (hM, .inl (cJ, 6, (.inr (.inl (vp_updL (fun _ => 0) (0 : Int32).toNatClampNeg 1)))))] := hD
      refine lv_aload_n hx hb dX10_rankOf_14 rfl (lv_at hl 0 rfl) ?_
      refine va_get (D := (dC, dI)) (ci := 10) (v := .ref xHan) (C := RX10) (T := TX10) (N := 13) hx hb hts hiX10 hown hK hP 0 rfl rfl 8 (by decide) (hts (.fieldLink RX10 61 "ScissorsTable" "hang" "LScissorsTable$Hang;") (by decide +kernel)) (fun _ h9 => h9) rfl dX10_rankOf_15 ?_
      refine va_get (D := (dC, dI)) (ci := 3) (v := .int 0) (C := RX3) (T := TX3) (N := 7) hx hb hts hiX3 hown hK hP 1 rfl rfl 0 (by decide) (hts (.fieldLink RX10 313 "ScissorsTable$Hang" "rank" "I") (by decide +kernel)) (fun _ h9 => h9) rfl dX10_rankOf_18 ?_
      refine W.widen (k := 0) (n := 0) (Nat.le_of_ble_eq_true rfl) (Nat.le_of_ble_eq_true rfl) ?_
      exact W.iret (v := 0) hx hb hr (fun t ht hW => ⟨⟨0, (), rfl, (by decide), trivial⟩, hS.F ht⟩) hS.2.2 dX10_rankOf_21
    · refine lv_aload_n hx hb dX10_rankOf_9 rfl (lv_at hl 0 rfl) ?_
      refine lv_iload_n hx hb dX10_rankOf_10 rfl (lv_at hl 1 rfl) ?_
      have hPc := hP.sub (ws' := [(x0, .inr (10, [.ref xTape, .ref xReader, .ref xBag, .ref xBld, .ref xAng, .ref xSum, .ref xPik, .int 0, .ref xHan, .ref xIns, .ref xShr, .ref xSta, .ref xTur])), (xSum, .inr (8, [.ref sM, .ref sP, .ref sA, .int 0])), (xHan, .inr (3, [.int 0, .int 0, .int 0, .ref hH, .ref hR, .ref hT, .ref hM])), (hH, .inl (cI, 7, (.inl (fun _ => 0)))), (hT, .inl (cJ, 7, (.inr (.inl (fun _ => 0))))), (hM, .inl (cJ, 6, (.inr (.inl (fun _ => 0)))))]) [0, 1, 2, 3, 4, 5] rfl
      have hDc := hD.sub (ws' := [(x0, .inr (10, [.ref xTape, .ref xReader, .ref xBag, .ref xBld, .ref xAng, .ref xSum, .ref xPik, .int 0, .ref xHan, .ref xIns, .ref xShr, .ref xSta, .ref xTur])), (xSum, .inr (8, [.ref sM, .ref sP, .ref sA, .int 0])), (xHan, .inr (3, [.int 0, .int 0, .int 0, .ref hH, .ref hR, .ref hT, .ref hM])), (hH, .inl (cI, 7, (.inl (fun _ => 0)))), (hT, .inl (cJ, 7, (.inr (.inl (fun _ => 0))))), (hM, .inl (cJ, 6, (.inr (.inl (fun _ => 0)))))]) [0, 1, 2, 3, 4, 5] (by decide) rfl
      have hFc := va_free (wc := [(x0, .inr (10, [.ref xTape, .ref xReader, .ref xBag, .ref xBld, .ref xAng, .ref xSum, .ref xPik, .int 0, .ref xHan, .ref xIns, .ref xShr, .ref xSta, .ref xTur])), (xSum, .inr (8, [.ref sM, .ref sP, .ref sA, .int 0])), (xHan, .inr (3, [.int 0, .int 0, .int 0, .ref hH, .ref hR, .ref hT, .ref hM])), (hH, .inl (cI, 7, (.inl (fun _ => 0)))), (hT, .inl (cJ, 7, (.inr (.inl (fun _ => 0))))), (hM, .inl (cJ, 6, (.inr (.inl (fun _ => 0)))))]) hD hS hA [0, 1, 2, 3, 4, 5] rfl
      refine va_callv (va_runV (As := [.int 3]) (rest := []) ⟨hx, hb, hml, hown, hts⟩ (c_X10_hangSolids_3 l dC dI cB cI cJ H.size x0 xTape xReader xBag xBld xAng xSum xPik xHan xIns xShr xSta xTur sM sP sA hH hR hT hM (fun _ => 0) (fun _ => 0)) (cwV 1 hts gX10_rankOf_X10_hangSolids rfl rfl rfl (by decide +kernel) ⟨Nat.le_of_ble_eq_true rfl, Nat.le_of_ble_eq_true rfl⟩) ⟨fun a U g mk q => by obtain ⟨q0, q1, qP, qK, qD, qN0⟩ := q; exact ⟨q0, q1, qP, va_K.moved (u := U) (U := U.calling g mk a) (Vm.Alike.refl U.vm) qK, qD, va_Nw.same rfl rfl qN0⟩, va_recv hK hP (ci := 10) (q0 := 0) rfl rfl, fun U hU hW => ⟨rfl, by rw [hU], by rw [hU]; exact hPc, va_K.moved hW.alike hK, hDc.weaken (fun _ _ _ _ => trivial), va_Nw.warmM hW hN0⟩⟩ rfl rfl hl.1 rfl (lv_room (Nat.le_of_ble_eq_true rfl)) dX10_rankOf_11 ⟨Nat.le_of_ble_eq_true rfl, Nat.le_of_ble_eq_true rfl⟩) hS (fun q _ h => hFc q h) hFc (fun u t H1 locs ht hvm hw hB hz1 hk1 hS => ?_)
      obtain ⟨hP1, hK1, hD1⟩ := hB
      rw [ht] at hP1
      obtain ⟨hP, hD⟩ := va_join (wr := []) (w1 := [(x0, .inr (10, [.ref xTape, .ref xReader, .ref xBag, .ref xBld, .ref xAng, .ref xSum, .ref xPik, .int 0, .ref xHan, .ref xIns, .ref xShr, .ref xSta, .ref xTur])), (xHan, .inr (3, [.int 0, .int 2, .int 1, .ref hH, .ref hR, .ref hT, .ref hM])), (xSum, .inr (8, [.ref sM, .ref sP, .ref sA, .int 0])), (hH, .inl (cI, 7, (.inl (upd (upd (fun _ => 0) (0 : Int32).toNatClampNeg 0) (0 : Int32).toNatClampNeg 1)))), (hT, .inl (cJ, 7, (.inr (.inl (vp_updL (vp_updL (fun _ => 0) (0 : Int32).toNatClampNeg 1) (0 : Int32).toNatClampNeg 1))))), (hM, .inl (cJ, 6, (.inr (.inl (vp_updL (fun _ => 0) (0 : Int32).toNatClampNeg 1)))))]) hP hD [0, 1, 2, 3, 4, 5] [] rfl rfl (by decide) (by decide) hk1 hFc hP1 hD1
      generalize H1 = H at hP hS ⊢
      have hP : va_P (dC, dI) vwCl [(x0, .inr (10, [.ref xTape, .ref xReader, .ref xBag, .ref xBld, .ref xAng, .ref xSum, .ref xPik, .int 0, .ref xHan, .ref xIns, .ref xShr, .ref xSta, .ref xTur])), (xHan, .inr (3, [.int 0, .int 2, .int 1, .ref hH, .ref hR, .ref hT, .ref hM])), (xSum, .inr (8, [.ref sM, .ref sP, .ref sA, .int 0])), (hH, .inl (cI, 7, (.inl (upd (upd (fun _ => 0) (0 : Int32).toNatClampNeg 0) (0 : Int32).toNatClampNeg 1)))), (hT, .inl (cJ, 7, (.inr (.inl (vp_updL (vp_updL (fun _ => 0) (0 : Int32).toNatClampNeg 1) (0 : Int32).toNatClampNeg 1))))), (hM, .inl (cJ, 6, (.inr (.inl (vp_updL (fun _ => 0) (0 : Int32).toNatClampNeg 1)))))] H := hP
      have hD : va_D A [(x0, .inr (10, [.ref xTape, .ref xReader, .ref xBag, .ref xBld, .ref xAng, .ref xSum, .ref xPik, .int 0, .ref xHan, .ref xIns, .ref xShr, .ref xSta, .ref xTur])), (xHan, .inr (3, [.int 0, .int 2, .int 1, .ref hH, .ref hR, .ref hT, .ref hM])), (xSum, .inr (8, [.ref sM, .ref sP, .ref sA, .int 0])), (hH, .inl (cI, 7, (.inl (upd (upd (fun _ => 0) (0 : Int32).toNatClampNeg 0) (0 : Int32).toNatClampNeg 1)))), (hT, .inl (cJ, 7, (.inr (.inl (vp_updL (vp_updL (fun _ => 0) (0 : Int32).toNatClampNeg 1) (0 : Int32).toNatClampNeg 1))))), (hM, .inl (cJ, 6, (.inr (.inl (vp_updL (fun _ => 0) (0 : Int32).toNatClampNeg 1)))))] := hD
      refine lv_aload_n hx hb dX10_rankOf_14 rfl (lv_at hl 0 rfl) ?_
      refine va_get (D := (dC, dI)) (ci := 10) (v := .ref xHan) (C := RX10) (T := TX10) (N := 13) hx hb hts hiX10 hown hK hP 0 rfl rfl 8 (by decide) (hts (.fieldLink RX10 61 "ScissorsTable" "hang" "LScissorsTable$Hang;") (by decide +kernel)) (fun _ h9 => h9) rfl dX10_rankOf_15 ?_
      refine va_get (D := (dC, dI)) (ci := 3) (v := .int 0) (C := RX3) (T := TX3) (N := 7) hx hb hts hiX3 hown hK hP 1 rfl rfl 0 (by decide) (hts (.fieldLink RX10 313 "ScissorsTable$Hang" "rank" "I") (by decide +kernel)) (fun _ h9 => h9) rfl dX10_rankOf_18 ?_
      refine W.widen (k := 0) (n := 0) (Nat.le_of_ble_eq_true rfl) (Nat.le_of_ble_eq_true rfl) ?_
      exact W.iret (v := 0) hx hb hr (fun t ht hW => ⟨⟨0, (), rfl, (by decide), trivial⟩, hS.F ht⟩) hS.2.2 dX10_rankOf_21
    · refine lv_aload_n hx hb dX10_rankOf_9 rfl (lv_at hl 0 rfl) ?_
      refine lv_iload_n hx hb dX10_rankOf_10 rfl (lv_at hl 1 rfl) ?_
      have hPc := hP.sub (ws' := [(x0, .inr (10, [.ref xTape, .ref xReader, .ref xBag, .ref xBld, .ref xAng, .ref xSum, .ref xPik, .int 0, .ref xHan, .ref xIns, .ref xShr, .ref xSta, .ref xTur])), (xSum, .inr (8, [.ref sM, .ref sP, .ref sA, .int 0])), (xHan, .inr (3, [.int 0, .int 0, .int 0, .ref hH, .ref hR, .ref hT, .ref hM])), (hH, .inl (cI, 7, (.inl (fun _ => 0)))), (hT, .inl (cJ, 7, (.inr (.inl (fun _ => 0))))), (hM, .inl (cJ, 6, (.inr (.inl (fun _ => 0)))))]) [0, 1, 2, 3, 4, 5] rfl
      have hDc := hD.sub (ws' := [(x0, .inr (10, [.ref xTape, .ref xReader, .ref xBag, .ref xBld, .ref xAng, .ref xSum, .ref xPik, .int 0, .ref xHan, .ref xIns, .ref xShr, .ref xSta, .ref xTur])), (xSum, .inr (8, [.ref sM, .ref sP, .ref sA, .int 0])), (xHan, .inr (3, [.int 0, .int 0, .int 0, .ref hH, .ref hR, .ref hT, .ref hM])), (hH, .inl (cI, 7, (.inl (fun _ => 0)))), (hT, .inl (cJ, 7, (.inr (.inl (fun _ => 0))))), (hM, .inl (cJ, 6, (.inr (.inl (fun _ => 0)))))]) [0, 1, 2, 3, 4, 5] (by decide) rfl
      have hFc := va_free (wc := [(x0, .inr (10, [.ref xTape, .ref xReader, .ref xBag, .ref xBld, .ref xAng, .ref xSum, .ref xPik, .int 0, .ref xHan, .ref xIns, .ref xShr, .ref xSta, .ref xTur])), (xSum, .inr (8, [.ref sM, .ref sP, .ref sA, .int 0])), (xHan, .inr (3, [.int 0, .int 0, .int 0, .ref hH, .ref hR, .ref hT, .ref hM])), (hH, .inl (cI, 7, (.inl (fun _ => 0)))), (hT, .inl (cJ, 7, (.inr (.inl (fun _ => 0))))), (hM, .inl (cJ, 6, (.inr (.inl (fun _ => 0)))))]) hD hS hA [0, 1, 2, 3, 4, 5] rfl
      refine va_callv (va_runV (As := [.int 4]) (rest := []) ⟨hx, hb, hml, hown, hts⟩ (c_X10_hangSolids_4 l dC dI cB cI cJ H.size x0 xTape xReader xBag xBld xAng xSum xPik xHan xIns xShr xSta xTur sM sP sA hH hR hT hM (fun _ => 0) (fun _ => 0)) (cwV 1 hts gX10_rankOf_X10_hangSolids rfl rfl rfl (by decide +kernel) ⟨Nat.le_of_ble_eq_true rfl, Nat.le_of_ble_eq_true rfl⟩) ⟨fun a U g mk q => by obtain ⟨q0, q1, qP, qK, qD, qN0⟩ := q; exact ⟨q0, q1, qP, va_K.moved (u := U) (U := U.calling g mk a) (Vm.Alike.refl U.vm) qK, qD, va_Nw.same rfl rfl qN0⟩, va_recv hK hP (ci := 10) (q0 := 0) rfl rfl, fun U hU hW => ⟨rfl, by rw [hU], by rw [hU]; exact hPc, va_K.moved hW.alike hK, hDc.weaken (fun _ _ _ _ => trivial), va_Nw.warmM hW hN0⟩⟩ rfl rfl hl.1 rfl (lv_room (Nat.le_of_ble_eq_true rfl)) dX10_rankOf_11 ⟨Nat.le_of_ble_eq_true rfl, Nat.le_of_ble_eq_true rfl⟩) hS (fun q _ h => hFc q h) hFc (fun u t H1 locs ht hvm hw hB hz1 hk1 hS => ?_)
      obtain ⟨hP1, hK1, hD1⟩ := hB
      rw [ht] at hP1
      obtain ⟨hP, hD⟩ := va_join (wr := []) (w1 := [(x0, .inr (10, [.ref xTape, .ref xReader, .ref xBag, .ref xBld, .ref xAng, .ref xSum, .ref xPik, .int 0, .ref xHan, .ref xIns, .ref xShr, .ref xSta, .ref xTur])), (xHan, .inr (3, [.int 0, .int 1, .int 1, .ref hH, .ref hR, .ref hT, .ref hM])), (xSum, .inr (8, [.ref sM, .ref sP, .ref sA, .int 0])), (hH, .inl (cI, 7, (.inl (upd (fun _ => 0) (0 : Int32).toNatClampNeg 2)))), (hT, .inl (cJ, 7, (.inr (.inl (vp_updL (fun _ => 0) (0 : Int32).toNatClampNeg 1))))), (hM, .inl (cJ, 6, (.inr (.inl (vp_updL (fun _ => 0) (0 : Int32).toNatClampNeg 1)))))]) hP hD [0, 1, 2, 3, 4, 5] [] rfl rfl (by decide) (by decide) hk1 hFc hP1 hD1
      generalize H1 = H at hP hS ⊢
      have hP : va_P (dC, dI) vwCl [(x0, .inr (10, [.ref xTape, .ref xReader, .ref xBag, .ref xBld, .ref xAng, .ref xSum, .ref xPik, .int 0, .ref xHan, .ref xIns, .ref xShr, .ref xSta, .ref xTur])), (xHan, .inr (3, [.int 0, .int 1, .int 1, .ref hH, .ref hR, .ref hT, .ref hM])), (xSum, .inr (8, [.ref sM, .ref sP, .ref sA, .int 0])), (hH, .inl (cI, 7, (.inl (upd (fun _ => 0) (0 : Int32).toNatClampNeg 2)))), (hT, .inl (cJ, 7, (.inr (.inl (vp_updL (fun _ => 0) (0 : Int32).toNatClampNeg 1))))), (hM, .inl (cJ, 6, (.inr (.inl (vp_updL (fun _ => 0) (0 : Int32).toNatClampNeg 1)))))] H := hP
      have hD : va_D A [(x0, .inr (10, [.ref xTape, .ref xReader, .ref xBag, .ref xBld, .ref xAng, .ref xSum, .ref xPik, .int 0, .ref xHan, .ref xIns, .ref xShr, .ref xSta, .ref xTur])), (xHan, .inr (3, [.int 0, .int 1, .int 1, .ref hH, .ref hR, .ref hT, .ref hM])), (xSum, .inr (8, [.ref sM, .ref sP, .ref sA, .int 0])), (hH, .inl (cI, 7, (.inl (upd (fun _ => 0) (0 : Int32).toNatClampNeg 2)))), (hT, .inl (cJ, 7, (.inr (.inl (vp_updL (fun _ => 0) (0 : Int32).toNatClampNeg 1))))), (hM, .inl (cJ, 6, (.inr (.inl (vp_updL (fun _ => 0) (0 : Int32).toNatClampNeg 1)))))] := hD
      refine lv_aload_n hx hb dX10_rankOf_14 rfl (lv_at hl 0 rfl) ?_
      refine va_get (D := (dC, dI)) (ci := 10) (v := .ref xHan) (C := RX10) (T := TX10) (N := 13) hx hb hts hiX10 hown hK hP 0 rfl rfl 8 (by decide) (hts (.fieldLink RX10 61 "ScissorsTable" "hang" "LScissorsTable$Hang;") (by decide +kernel)) (fun _ h9 => h9) rfl dX10_rankOf_15 ?_
      refine va_get (D := (dC, dI)) (ci := 3) (v := .int 0) (C := RX3) (T := TX3) (N := 7) hx hb hts hiX3 hown hK hP 1 rfl rfl 0 (by decide) (hts (.fieldLink RX10 313 "ScissorsTable$Hang" "rank" "I") (by decide +kernel)) (fun _ h9 => h9) rfl dX10_rankOf_18 ?_
      refine W.widen (k := 0) (n := 0) (Nat.le_of_ble_eq_true rfl) (Nat.le_of_ble_eq_true rfl) ?_
      exact W.iret (v := 0) hx hb hr (fun t ht hW => ⟨⟨0, (), rfl, (by decide), trivial⟩, hS.F ht⟩) hS.2.2 dX10_rankOf_21
    · refine lv_aload_n hx hb dX10_rankOf_9 rfl (lv_at hl 0 rfl) ?_
      refine lv_iload_n hx hb dX10_rankOf_10 rfl (lv_at hl 1 rfl) ?_
      have hPc := hP.sub (ws' := [(x0, .inr (10, [.ref xTape, .ref xReader, .ref xBag, .ref xBld, .ref xAng, .ref xSum, .ref xPik, .int 0, .ref xHan, .ref xIns, .ref xShr, .ref xSta, .ref xTur])), (xSum, .inr (8, [.ref sM, .ref sP, .ref sA, .int 0])), (xHan, .inr (3, [.int 0, .int 0, .int 0, .ref hH, .ref hR, .ref hT, .ref hM])), (hH, .inl (cI, 7, (.inl (fun _ => 0)))), (hT, .inl (cJ, 7, (.inr (.inl (fun _ => 0))))), (hM, .inl (cJ, 6, (.inr (.inl (fun _ => 0)))))]) [0, 1, 2, 3, 4, 5] rfl
      have hDc := hD.sub (ws' := [(x0, .inr (10, [.ref xTape, .ref xReader, .ref xBag, .ref xBld, .ref xAng, .ref xSum, .ref xPik, .int 0, .ref xHan, .ref xIns, .ref xShr, .ref xSta, .ref xTur])), (xSum, .inr (8, [.ref sM, .ref sP, .ref sA, .int 0])), (xHan, .inr (3, [.int 0, .int 0, .int 0, .ref hH, .ref hR, .ref hT, .ref hM])), (hH, .inl (cI, 7, (.inl (fun _ => 0)))), (hT, .inl (cJ, 7, (.inr (.inl (fun _ => 0))))), (hM, .inl (cJ, 6, (.inr (.inl (fun _ => 0)))))]) [0, 1, 2, 3, 4, 5] (by decide) rfl
      have hFc := va_free (wc := [(x0, .inr (10, [.ref xTape, .ref xReader, .ref xBag, .ref xBld, .ref xAng, .ref xSum, .ref xPik, .int 0, .ref xHan, .ref xIns, .ref xShr, .ref xSta, .ref xTur])), (xSum, .inr (8, [.ref sM, .ref sP, .ref sA, .int 0])), (xHan, .inr (3, [.int 0, .int 0, .int 0, .ref hH, .ref hR, .ref hT, .ref hM])), (hH, .inl (cI, 7, (.inl (fun _ => 0)))), (hT, .inl (cJ, 7, (.inr (.inl (fun _ => 0))))), (hM, .inl (cJ, 6, (.inr (.inl (fun _ => 0)))))]) hD hS hA [0, 1, 2, 3, 4, 5] rfl
      refine va_callv (va_runV (As := [.int 5]) (rest := []) ⟨hx, hb, hml, hown, hts⟩ (c_X10_hangSolids_5 l dC dI cB cI cJ H.size x0 xTape xReader xBag xBld xAng xSum xPik xHan xIns xShr xSta xTur sM sP sA hH hR hT hM (fun _ => 0) (fun _ => 0)) (cwV 1 hts gX10_rankOf_X10_hangSolids rfl rfl rfl (by decide +kernel) ⟨Nat.le_of_ble_eq_true rfl, Nat.le_of_ble_eq_true rfl⟩) ⟨fun a U g mk q => by obtain ⟨q0, q1, qP, qK, qD, qN0⟩ := q; exact ⟨q0, q1, qP, va_K.moved (u := U) (U := U.calling g mk a) (Vm.Alike.refl U.vm) qK, qD, va_Nw.same rfl rfl qN0⟩, va_recv hK hP (ci := 10) (q0 := 0) rfl rfl, fun U hU hW => ⟨rfl, by rw [hU], by rw [hU]; exact hPc, va_K.moved hW.alike hK, hDc.weaken (fun _ _ _ _ => trivial), va_Nw.warmM hW hN0⟩⟩ rfl rfl hl.1 rfl (lv_room (Nat.le_of_ble_eq_true rfl)) dX10_rankOf_11 ⟨Nat.le_of_ble_eq_true rfl, Nat.le_of_ble_eq_true rfl⟩) hS (fun q _ h => hFc q h) hFc (fun u t H1 locs ht hvm hw hB hz1 hk1 hS => ?_)
      obtain ⟨hP1, hK1, hD1⟩ := hB
      rw [ht] at hP1
      obtain ⟨hP, hD⟩ := va_join (wr := []) (w1 := [(x0, .inr (10, [.ref xTape, .ref xReader, .ref xBag, .ref xBld, .ref xAng, .ref xSum, .ref xPik, .int 0, .ref xHan, .ref xIns, .ref xShr, .ref xSta, .ref xTur])), (xHan, .inr (3, [.int 0, .int 2, .int 1, .ref hH, .ref hR, .ref hT, .ref hM])), (xSum, .inr (8, [.ref sM, .ref sP, .ref sA, .int 0])), (hH, .inl (cI, 7, (.inl (upd (upd (fun _ => 0) (0 : Int32).toNatClampNeg 0) (0 : Int32).toNatClampNeg 2)))), (hT, .inl (cJ, 7, (.inr (.inl (vp_updL (vp_updL (fun _ => 0) (0 : Int32).toNatClampNeg 1) (0 : Int32).toNatClampNeg 1))))), (hM, .inl (cJ, 6, (.inr (.inl (vp_updL (fun _ => 0) (0 : Int32).toNatClampNeg 1)))))]) hP hD [0, 1, 2, 3, 4, 5] [] rfl rfl (by decide) (by decide) hk1 hFc hP1 hD1
      generalize H1 = H at hP hS ⊢
      have hP : va_P (dC, dI) vwCl [(x0, .inr (10, [.ref xTape, .ref xReader, .ref xBag, .ref xBld, .ref xAng, .ref xSum, .ref xPik, .int 0, .ref xHan, .ref xIns, .ref xShr, .ref xSta, .ref xTur])), (xHan, .inr (3, [.int 0, .int 2, .int 1, .ref hH, .ref hR, .ref hT, .ref hM])), (xSum, .inr (8, [.ref sM, .ref sP, .ref sA, .int 0])), (hH, .inl (cI, 7, (.inl (upd (upd (fun _ => 0) (0 : Int32).toNatClampNeg 0) (0 : Int32).toNatClampNeg 2)))), (hT, .inl (cJ, 7, (.inr (.inl (vp_updL (vp_updL (fun _ => 0) (0 : Int32).toNatClampNeg 1) (0 : Int32).toNatClampNeg 1))))), (hM, .inl (cJ, 6, (.inr (.inl (vp_updL (fun _ => 0) (0 : Int32).toNatClampNeg 1)))))] H := hP
      have hD : va_D A [(x0, .inr (10, [.ref xTape, .ref xReader, .ref xBag, .ref xBld, .ref xAng, .ref xSum, .ref xPik, .int 0, .ref xHan, .ref xIns, .ref xShr, .ref xSta, .ref xTur])), (xHan, .inr (3, [.int 0, .int 2, .int 1, .ref hH, .ref hR, .ref hT, .ref hM])), (xSum, .inr (8, [.ref sM, .ref sP, .ref sA, .int 0])), (hH, .inl (cI, 7, (.inl (upd (upd (fun _ => 0) (0 : Int32).toNatClampNeg 0) (0 : Int32).toNatClampNeg 2)))), (hT, .inl (cJ, 7, (.inr (.inl (vp_updL (vp_updL (fun _ => 0) (0 : Int32).toNatClampNeg 1) (0 : Int32).toNatClampNeg 1))))), (hM, .inl (cJ, 6, (.inr (.inl (vp_updL (fun _ => 0) (0 : Int32).toNatClampNeg 1)))))] := hD
      refine lv_aload_n hx hb dX10_rankOf_14 rfl (lv_at hl 0 rfl) ?_
      refine va_get (D := (dC, dI)) (ci := 10) (v := .ref xHan) (C := RX10) (T := TX10) (N := 13) hx hb hts hiX10 hown hK hP 0 rfl rfl 8 (by decide) (hts (.fieldLink RX10 61 "ScissorsTable" "hang" "LScissorsTable$Hang;") (by decide +kernel)) (fun _ h9 => h9) rfl dX10_rankOf_15 ?_
      refine va_get (D := (dC, dI)) (ci := 3) (v := .int 0) (C := RX3) (T := TX3) (N := 7) hx hb hts hiX3 hown hK hP 1 rfl rfl 0 (by decide) (hts (.fieldLink RX10 313 "ScissorsTable$Hang" "rank" "I") (by decide +kernel)) (fun _ h9 => h9) rfl dX10_rankOf_18 ?_
      refine W.widen (k := 0) (n := 0) (Nat.le_of_ble_eq_true rfl) (Nat.le_of_ble_eq_true rfl) ?_
      exact W.iret (v := 0) hx hb hr (fun t ht hW => ⟨⟨0, (), rfl, (by decide), trivial⟩, hS.F ht⟩) hS.2.2 dX10_rankOf_21
    · refine lv_aload_n hx hb dX10_rankOf_9 rfl (lv_at hl 0 rfl) ?_
      refine lv_iload_n hx hb dX10_rankOf_10 rfl (lv_at hl 1 rfl) ?_
      have hPc := hP.sub (ws' := [(x0, .inr (10, [.ref xTape, .ref xReader, .ref xBag, .ref xBld, .ref xAng, .ref xSum, .ref xPik, .int 0, .ref xHan, .ref xIns, .ref xShr, .ref xSta, .ref xTur])), (xSum, .inr (8, [.ref sM, .ref sP, .ref sA, .int 0])), (xHan, .inr (3, [.int 0, .int 0, .int 0, .ref hH, .ref hR, .ref hT, .ref hM])), (hH, .inl (cI, 7, (.inl (fun _ => 0)))), (hT, .inl (cJ, 7, (.inr (.inl (fun _ => 0))))), (hM, .inl (cJ, 6, (.inr (.inl (fun _ => 0)))))]) [0, 1, 2, 3, 4, 5] rfl
      have hDc := hD.sub (ws' := [(x0, .inr (10, [.ref xTape, .ref xReader, .ref xBag, .ref xBld, .ref xAng, .ref xSum, .ref xPik, .int 0, .ref xHan, .ref xIns, .ref xShr, .ref xSta, .ref xTur])), (xSum, .inr (8, [.ref sM, .ref sP, .ref sA, .int 0])), (xHan, .inr (3, [.int 0, .int 0, .int 0, .ref hH, .ref hR, .ref hT, .ref hM])), (hH, .inl (cI, 7, (.inl (fun _ => 0)))), (hT, .inl (cJ, 7, (.inr (.inl (fun _ => 0))))), (hM, .inl (cJ, 6, (.inr (.inl (fun _ => 0)))))]) [0, 1, 2, 3, 4, 5] (by decide) rfl
      have hFc := va_free (wc := [(x0, .inr (10, [.ref xTape, .ref xReader, .ref xBag, .ref xBld, .ref xAng, .ref xSum, .ref xPik, .int 0, .ref xHan, .ref xIns, .ref xShr, .ref xSta, .ref xTur])), (xSum, .inr (8, [.ref sM, .ref sP, .ref sA, .int 0])), (xHan, .inr (3, [.int 0, .int 0, .int 0, .ref hH, .ref hR, .ref hT, .ref hM])), (hH, .inl (cI, 7, (.inl (fun _ => 0)))), (hT, .inl (cJ, 7, (.inr (.inl (fun _ => 0))))), (hM, .inl (cJ, 6, (.inr (.inl (fun _ => 0)))))]) hD hS hA [0, 1, 2, 3, 4, 5] rfl
      refine va_callv (va_runV (As := [.int 6]) (rest := []) ⟨hx, hb, hml, hown, hts⟩ (c_X10_hangSolids_6 l dC dI cB cI cJ H.size x0 xTape xReader xBag xBld xAng xSum xPik xHan xIns xShr xSta xTur sM sP sA hH hR hT hM (fun _ => 0) (fun _ => 0)) (cwV 1 hts gX10_rankOf_X10_hangSolids rfl rfl rfl (by decide +kernel) ⟨Nat.le_of_ble_eq_true rfl, Nat.le_of_ble_eq_true rfl⟩) ⟨fun a U g mk q => by obtain ⟨q0, q1, qP, qK, qD, qN0⟩ := q; exact ⟨q0, q1, qP, va_K.moved (u := U) (U := U.calling g mk a) (Vm.Alike.refl U.vm) qK, qD, va_Nw.same rfl rfl qN0⟩, va_recv hK hP (ci := 10) (q0 := 0) rfl rfl, fun U hU hW => ⟨rfl, by rw [hU], by rw [hU]; exact hPc, va_K.moved hW.alike hK, hDc.weaken (fun _ _ _ _ => trivial), va_Nw.warmM hW hN0⟩⟩ rfl rfl hl.1 rfl (lv_room (Nat.le_of_ble_eq_true rfl)) dX10_rankOf_11 ⟨Nat.le_of_ble_eq_true rfl, Nat.le_of_ble_eq_true rfl⟩) hS (fun q _ h => hFc q h) hFc (fun u t H1 locs ht hvm hw hB hz1 hk1 hS => ?_)
      obtain ⟨hP1, hK1, hD1⟩ := hB
      rw [ht] at hP1
      obtain ⟨hP, hD⟩ := va_join (wr := []) (w1 := [(x0, .inr (10, [.ref xTape, .ref xReader, .ref xBag, .ref xBld, .ref xAng, .ref xSum, .ref xPik, .int 0, .ref xHan, .ref xIns, .ref xShr, .ref xSta, .ref xTur])), (xHan, .inr (3, [.int 0, .int 2, .int 1, .ref hH, .ref hR, .ref hT, .ref hM])), (xSum, .inr (8, [.ref sM, .ref sP, .ref sA, .int 0])), (hH, .inl (cI, 7, (.inl (upd (upd (fun _ => 0) (0 : Int32).toNatClampNeg 1) (0 : Int32).toNatClampNeg 2)))), (hT, .inl (cJ, 7, (.inr (.inl (vp_updL (vp_updL (fun _ => 0) (0 : Int32).toNatClampNeg 1) (0 : Int32).toNatClampNeg 1))))), (hM, .inl (cJ, 6, (.inr (.inl (vp_updL (fun _ => 0) (0 : Int32).toNatClampNeg 1)))))]) hP hD [0, 1, 2, 3, 4, 5] [] rfl rfl (by decide) (by decide) hk1 hFc hP1 hD1
      generalize H1 = H at hP hS ⊢
      have hP : va_P (dC, dI) vwCl [(x0, .inr (10, [.ref xTape, .ref xReader, .ref xBag, .ref xBld, .ref xAng, .ref xSum, .ref xPik, .int 0, .ref xHan, .ref xIns, .ref xShr, .ref xSta, .ref xTur])), (xHan, .inr (3, [.int 0, .int 2, .int 1, .ref hH, .ref hR, .ref hT, .ref hM])), (xSum, .inr (8, [.ref sM, .ref sP, .ref sA, .int 0])), (hH, .inl (cI, 7, (.inl (upd (upd (fun _ => 0) (0 : Int32).toNatClampNeg 1) (0 : Int32).toNatClampNeg 2)))), (hT, .inl (cJ, 7, (.inr (.inl (vp_updL (vp_updL (fun _ => 0) (0 : Int32).toNatClampNeg 1) (0 : Int32).toNatClampNeg 1))))), (hM, .inl (cJ, 6, (.inr (.inl (vp_updL (fun _ => 0) (0 : Int32).toNatClampNeg 1)))))] H := hP
      have hD : va_D A [(x0, .inr (10, [.ref xTape, .ref xReader, .ref xBag, .ref xBld, .ref xAng, .ref xSum, .ref xPik, .int 0, .ref xHan, .ref xIns, .ref xShr, .ref xSta, .ref xTur])), (xHan, .inr (3, [.int 0, .int 2, .int 1, .ref hH, .ref hR, .ref hT, .ref hM])), (xSum, .inr (8, [.ref sM, .ref sP, .ref sA, .int 0])), (hH, .inl (cI, 7, (.inl (upd (upd (fun _ => 0) (0 : Int32).toNatClampNeg 1) (0 : Int32).toNatClampNeg 2)))), (hT, .inl (cJ, 7, (.inr (.inl (vp_updL (vp_updL (fun _ => 0) (0 : Int32).toNatClampNeg 1) (0 : Int32).toNatClampNeg 1))))), (hM, .inl (cJ, 6, (.inr (.inl (vp_updL (fun _ => 0) (0 : Int32).toNatClampNeg 1)))))] := hD
      refine lv_aload_n hx hb dX10_rankOf_14 rfl (lv_at hl 0 rfl) ?_
      refine va_get (D := (dC, dI)) (ci := 10) (v := .ref xHan) (C := RX10) (T := TX10) (N := 13) hx hb hts hiX10 hown hK hP 0 rfl rfl 8 (by decide) (hts (.fieldLink RX10 61 "ScissorsTable" "hang" "LScissorsTable$Hang;") (by decide +kernel)) (fun _ h9 => h9) rfl dX10_rankOf_15 ?_
      refine va_get (D := (dC, dI)) (ci := 3) (v := .int 0) (C := RX3) (T := TX3) (N := 7) hx hb hts hiX3 hown hK hP 1 rfl rfl 0 (by decide) (hts (.fieldLink RX10 313 "ScissorsTable$Hang" "rank" "I") (by decide +kernel)) (fun _ h9 => h9) rfl dX10_rankOf_18 ?_
      refine W.widen (k := 0) (n := 0) (Nat.le_of_ble_eq_true rfl) (Nat.le_of_ble_eq_true rfl) ?_
      exact W.iret (v := 0) hx hb hr (fun t ht hW => ⟨⟨0, (), rfl, (by decide), trivial⟩, hS.F ht⟩) hS.2.2 dX10_rankOf_21
    · refine lv_aload_n hx hb dX10_rankOf_9 rfl (lv_at hl 0 rfl) ?_
      refine lv_iload_n hx hb dX10_rankOf_10 rfl (lv_at hl 1 rfl) ?_
      have hPc := hP.sub (ws' := [(x0, .inr (10, [.ref xTape, .ref xReader, .ref xBag, .ref xBld, .ref xAng, .ref xSum, .ref xPik, .int 0, .ref xHan, .ref xIns, .ref xShr, .ref xSta, .ref xTur])), (xSum, .inr (8, [.ref sM, .ref sP, .ref sA, .int 0])), (xHan, .inr (3, [.int 0, .int 0, .int 0, .ref hH, .ref hR, .ref hT, .ref hM])), (hH, .inl (cI, 7, (.inl (fun _ => 0)))), (hT, .inl (cJ, 7, (.inr (.inl (fun _ => 0))))), (hM, .inl (cJ, 6, (.inr (.inl (fun _ => 0)))))]) [0, 1, 2, 3, 4, 5] rfl
      have hDc := hD.sub (ws' := [(x0, .inr (10, [.ref xTape, .ref xReader, .ref xBag, .ref xBld, .ref xAng, .ref xSum, .ref xPik, .int 0, .ref xHan, .ref xIns, .ref xShr, .ref xSta, .ref xTur])), (xSum, .inr (8, [.ref sM, .ref sP, .ref sA, .int 0])), (xHan, .inr (3, [.int 0, .int 0, .int 0, .ref hH, .ref hR, .ref hT, .ref hM])), (hH, .inl (cI, 7, (.inl (fun _ => 0)))), (hT, .inl (cJ, 7, (.inr (.inl (fun _ => 0))))), (hM, .inl (cJ, 6, (.inr (.inl (fun _ => 0)))))]) [0, 1, 2, 3, 4, 5] (by decide) rfl
      have hFc := va_free (wc := [(x0, .inr (10, [.ref xTape, .ref xReader, .ref xBag, .ref xBld, .ref xAng, .ref xSum, .ref xPik, .int 0, .ref xHan, .ref xIns, .ref xShr, .ref xSta, .ref xTur])), (xSum, .inr (8, [.ref sM, .ref sP, .ref sA, .int 0])), (xHan, .inr (3, [.int 0, .int 0, .int 0, .ref hH, .ref hR, .ref hT, .ref hM])), (hH, .inl (cI, 7, (.inl (fun _ => 0)))), (hT, .inl (cJ, 7, (.inr (.inl (fun _ => 0))))), (hM, .inl (cJ, 6, (.inr (.inl (fun _ => 0)))))]) hD hS hA [0, 1, 2, 3, 4, 5] rfl
      refine va_callv (va_runV (As := [.int 7]) (rest := []) ⟨hx, hb, hml, hown, hts⟩ (c_X10_hangSolids_7 l dC dI cB cI cJ H.size x0 xTape xReader xBag xBld xAng xSum xPik xHan xIns xShr xSta xTur sM sP sA hH hR hT hM (fun _ => 0) (fun _ => 0)) (cwV 1 hts gX10_rankOf_X10_hangSolids rfl rfl rfl (by decide +kernel) ⟨Nat.le_of_ble_eq_true rfl, Nat.le_of_ble_eq_true rfl⟩) ⟨fun a U g mk q => by obtain ⟨q0, q1, qP, qK, qD, qN0⟩ := q; exact ⟨q0, q1, qP, va_K.moved (u := U) (U := U.calling g mk a) (Vm.Alike.refl U.vm) qK, qD, va_Nw.same rfl rfl qN0⟩, va_recv hK hP (ci := 10) (q0 := 0) rfl rfl, fun U hU hW => ⟨rfl, by rw [hU], by rw [hU]; exact hPc, va_K.moved hW.alike hK, hDc.weaken (fun _ _ _ _ => trivial), va_Nw.warmM hW hN0⟩⟩ rfl rfl hl.1 rfl (lv_room (Nat.le_of_ble_eq_true rfl)) dX10_rankOf_11 ⟨Nat.le_of_ble_eq_true rfl, Nat.le_of_ble_eq_true rfl⟩) hS (fun q _ h => hFc q h) hFc (fun u t H1 locs ht hvm hw hB hz1 hk1 hS => ?_)
      obtain ⟨hP1, hK1, hD1⟩ := hB
      rw [ht] at hP1
      obtain ⟨hP, hD⟩ := va_join (wr := []) (w1 := [(x0, .inr (10, [.ref xTape, .ref xReader, .ref xBag, .ref xBld, .ref xAng, .ref xSum, .ref xPik, .int 0, .ref xHan, .ref xIns, .ref xShr, .ref xSta, .ref xTur])), (xHan, .inr (3, [.int 0, .int 3, .int 1, .ref hH, .ref hR, .ref hT, .ref hM])), (xSum, .inr (8, [.ref sM, .ref sP, .ref sA, .int 0])), (hH, .inl (cI, 7, (.inl (upd (upd (upd (fun _ => 0) (0 : Int32).toNatClampNeg 0) (0 : Int32).toNatClampNeg 1) (0 : Int32).toNatClampNeg 2)))), (hT, .inl (cJ, 7, (.inr (.inl (vp_updL (vp_updL (vp_updL (fun _ => 0) (0 : Int32).toNatClampNeg 1) (0 : Int32).toNatClampNeg 1) (0 : Int32).toNatClampNeg 1))))), (hM, .inl (cJ, 6, (.inr (.inl (vp_updL (fun _ => 0) (0 : Int32).toNatClampNeg 1)))))]) hP hD [0, 1, 2, 3, 4, 5] [] rfl rfl (by decide) (by decide) hk1 hFc hP1 hD1
      generalize H1 = H at hP hS ⊢
      have hP : va_P (dC, dI) vwCl [(x0, .inr (10, [.ref xTape, .ref xReader, .ref xBag, .ref xBld, .ref xAng, .ref xSum, .ref xPik, .int 0, .ref xHan, .ref xIns, .ref xShr, .ref xSta, .ref xTur])), (xHan, .inr (3, [.int 0, .int 3, .int 1, .ref hH, .ref hR, .ref hT, .ref hM])), (xSum, .inr (8, [.ref sM, .ref sP, .ref sA, .int 0])), (hH, .inl (cI, 7, (.inl (upd (upd (upd (fun _ => 0) (0 : Int32).toNatClampNeg 0) (0 : Int32).toNatClampNeg 1) (0 : Int32).toNatClampNeg 2)))), (hT, .inl (cJ, 7, (.inr (.inl (vp_updL (vp_updL (vp_updL (fun _ => 0) (0 : Int32).toNatClampNeg 1) (0 : Int32).toNatClampNeg 1) (0 : Int32).toNatClampNeg 1))))), (hM, .inl (cJ, 6, (.inr (.inl (vp_updL (fun _ => 0) (0 : Int32).toNatClampNeg 1)))))] H := hP
      have hD : va_D A [(x0, .inr (10, [.ref xTape, .ref xReader, .ref xBag, .ref xBld, .ref xAng, .ref xSum, .ref xPik, .int 0, .ref xHan, .ref xIns, .ref xShr, .ref xSta, .ref xTur])), (xHan, .inr (3, [.int 0, .int 3, .int 1, .ref hH, .ref hR, .ref hT, .ref hM])), (xSum, .inr (8, [.ref sM, .ref sP, .ref sA, .int 0])), (hH, .inl (cI, 7, (.inl (upd (upd (upd (fun _ => 0) (0 : Int32).toNatClampNeg 0) (0 : Int32).toNatClampNeg 1) (0 : Int32).toNatClampNeg 2)))), (hT, .inl (cJ, 7, (.inr (.inl (vp_updL (vp_updL (vp_updL (fun _ => 0) (0 : Int32).toNatClampNeg 1) (0 : Int32).toNatClampNeg 1) (0 : Int32).toNatClampNeg 1))))), (hM, .inl (cJ, 6, (.inr (.inl (vp_updL (fun _ => 0) (0 : Int32).toNatClampNeg 1)))))] := hD
      refine lv_aload_n hx hb dX10_rankOf_14 rfl (lv_at hl 0 rfl) ?_
      refine va_get (D := (dC, dI)) (ci := 10) (v := .ref xHan) (C := RX10) (T := TX10) (N := 13) hx hb hts hiX10 hown hK hP 0 rfl rfl 8 (by decide) (hts (.fieldLink RX10 61 "ScissorsTable" "hang" "LScissorsTable$Hang;") (by decide +kernel)) (fun _ h9 => h9) rfl dX10_rankOf_15 ?_
      refine va_get (D := (dC, dI)) (ci := 3) (v := .int 0) (C := RX3) (T := TX3) (N := 7) hx hb hts hiX3 hown hK hP 1 rfl rfl 0 (by decide) (hts (.fieldLink RX10 313 "ScissorsTable$Hang" "rank" "I") (by decide +kernel)) (fun _ h9 => h9) rfl dX10_rankOf_18 ?_
      refine W.widen (k := 0) (n := 0) (Nat.le_of_ble_eq_true rfl) (Nat.le_of_ble_eq_true rfl) ?_
      exact W.iret (v := 0) hx hb hr (fun t ht hW => ⟨⟨0, (), rfl, (by decide), trivial⟩, hS.F ht⟩) hS.2.2 dX10_rankOf_21
    · refine lv_aload_n hx hb dX10_rankOf_9 rfl (lv_at hl 0 rfl) ?_
      refine lv_iload_n hx hb dX10_rankOf_10 rfl (lv_at hl 1 rfl) ?_
      have hPc := hP.sub (ws' := [(x0, .inr (10, [.ref xTape, .ref xReader, .ref xBag, .ref xBld, .ref xAng, .ref xSum, .ref xPik, .int 0, .ref xHan, .ref xIns, .ref xShr, .ref xSta, .ref xTur])), (xSum, .inr (8, [.ref sM, .ref sP, .ref sA, .int 0])), (xHan, .inr (3, [.int 0, .int 0, .int 0, .ref hH, .ref hR, .ref hT, .ref hM])), (hH, .inl (cI, 7, (.inl (fun _ => 0)))), (hT, .inl (cJ, 7, (.inr (.inl (fun _ => 0))))), (hM, .inl (cJ, 6, (.inr (.inl (fun _ => 0)))))]) [0, 1, 2, 3, 4, 5] rfl
      have hDc := hD.sub (ws' := [(x0, .inr (10, [.ref xTape, .ref xReader, .ref xBag, .ref xBld, .ref xAng, .ref xSum, .ref xPik, .int 0, .ref xHan, .ref xIns, .ref xShr, .ref xSta, .ref xTur])), (xSum, .inr (8, [.ref sM, .ref sP, .ref sA, .int 0])), (xHan, .inr (3, [.int 0, .int 0, .int 0, .ref hH, .ref hR, .ref hT, .ref hM])), (hH, .inl (cI, 7, (.inl (fun _ => 0)))), (hT, .inl (cJ, 7, (.inr (.inl (fun _ => 0))))), (hM, .inl (cJ, 6, (.inr (.inl (fun _ => 0)))))]) [0, 1, 2, 3, 4, 5] (by decide) rfl
      have hFc := va_free (wc := [(x0, .inr (10, [.ref xTape, .ref xReader, .ref xBag, .ref xBld, .ref xAng, .ref xSum, .ref xPik, .int 0, .ref xHan, .ref xIns, .ref xShr, .ref xSta, .ref xTur])), (xSum, .inr (8, [.ref sM, .ref sP, .ref sA, .int 0])), (xHan, .inr (3, [.int 0, .int 0, .int 0, .ref hH, .ref hR, .ref hT, .ref hM])), (hH, .inl (cI, 7, (.inl (fun _ => 0)))), (hT, .inl (cJ, 7, (.inr (.inl (fun _ => 0))))), (hM, .inl (cJ, 6, (.inr (.inl (fun _ => 0)))))]) hD hS hA [0, 1, 2, 3, 4, 5] rfl
      refine va_callv (va_runV (As := [.int 8]) (rest := []) ⟨hx, hb, hml, hown, hts⟩ (c_X10_hangSolids_8 l dC dI cB cI cJ H.size x0 xTape xReader xBag xBld xAng xSum xPik xHan xIns xShr xSta xTur sM sP sA hH hR hT hM (fun _ => 0) (fun _ => 0)) (cwV 1 hts gX10_rankOf_X10_hangSolids rfl rfl rfl (by decide +kernel) ⟨Nat.le_of_ble_eq_true rfl, Nat.le_of_ble_eq_true rfl⟩) ⟨fun a U g mk q => by obtain ⟨q0, q1, qP, qK, qD, qN0⟩ := q; exact ⟨q0, q1, qP, va_K.moved (u := U) (U := U.calling g mk a) (Vm.Alike.refl U.vm) qK, qD, va_Nw.same rfl rfl qN0⟩, va_recv hK hP (ci := 10) (q0 := 0) rfl rfl, fun U hU hW => ⟨rfl, by rw [hU], by rw [hU]; exact hPc, va_K.moved hW.alike hK, hDc.weaken (fun _ _ _ _ => trivial), va_Nw.warmM hW hN0⟩⟩ rfl rfl hl.1 rfl (lv_room (Nat.le_of_ble_eq_true rfl)) dX10_rankOf_11 ⟨Nat.le_of_ble_eq_true rfl, Nat.le_of_ble_eq_true rfl⟩) hS (fun q _ h => hFc q h) hFc (fun u t H1 locs ht hvm hw hB hz1 hk1 hS => ?_)
      obtain ⟨hP1, hK1, hD1⟩ := hB
      rw [ht] at hP1
      obtain ⟨hP, hD⟩ := va_join (wr := []) (w1 := [(x0, .inr (10, [.ref xTape, .ref xReader, .ref xBag, .ref xBld, .ref xAng, .ref xSum, .ref xPik, .int 0, .ref xHan, .ref xIns, .ref xShr, .ref xSta, .ref xTur])), (xHan, .inr (3, [.int 0, .int 1, .int 1, .ref hH, .ref hR, .ref hT, .ref hM])), (xSum, .inr (8, [.ref sM, .ref sP, .ref sA, .int 0])), (hH, .inl (cI, 7, (.inl (upd (fun _ => 0) (0 : Int32).toNatClampNeg 3)))), (hT, .inl (cJ, 7, (.inr (.inl (vp_updL (fun _ => 0) (0 : Int32).toNatClampNeg 1))))), (hM, .inl (cJ, 6, (.inr (.inl (vp_updL (fun _ => 0) (0 : Int32).toNatClampNeg 1)))))]) hP hD [0, 1, 2, 3, 4, 5] [] rfl rfl (by decide) (by decide) hk1 hFc hP1 hD1
      generalize H1 = H at hP hS ⊢
      have hP : va_P (dC, dI) vwCl [(x0, .inr (10, [.ref xTape, .ref xReader, .ref xBag, .ref xBld, .ref xAng, .ref xSum, .ref xPik, .int 0, .ref xHan, .ref xIns, .ref xShr, .ref xSta, .ref xTur])), (xHan, .inr (3, [.int 0, .int 1, .int 1, .ref hH, .ref hR, .ref hT, .ref hM])), (xSum, .inr (8, [.ref sM, .ref sP, .ref sA, .int 0])), (hH, .inl (cI, 7, (.inl (upd (fun _ => 0) (0 : Int32).toNatClampNeg 3)))), (hT, .inl (cJ, 7, (.inr (.inl (vp_updL (fun _ => 0) (0 : Int32).toNatClampNeg 1))))), (hM, .inl (cJ, 6, (.inr (.inl (vp_updL (fun _ => 0) (0 : Int32).toNatClampNeg 1)))))] H := hP
      have hD : va_D A [(x0, .inr (10, [.ref xTape, .ref xReader, .ref xBag, .ref xBld, .ref xAng, .ref xSum, .ref xPik, .int 0, .ref xHan, .ref xIns, .ref xShr, .ref xSta, .ref xTur])), (xHan, .inr (3, [.int 0, .int 1, .int 1, .ref hH, .ref hR, .ref hT, .ref hM])), (xSum, .inr (8, [.ref sM, .ref sP, .ref sA, .int 0])), (hH, .inl (cI, 7, (.inl (upd (fun _ => 0) (0 : Int32).toNatClampNeg 3)))), (hT, .inl (cJ, 7, (.inr (.inl (vp_updL (fun _ => 0) (0 : Int32).toNatClampNeg 1))))), (hM, .inl (cJ, 6, (.inr (.inl (vp_updL (fun _ => 0) (0 : Int32).toNatClampNeg 1)))))] := hD
      refine lv_aload_n hx hb dX10_rankOf_14 rfl (lv_at hl 0 rfl) ?_
      refine va_get (D := (dC, dI)) (ci := 10) (v := .ref xHan) (C := RX10) (T := TX10) (N := 13) hx hb hts hiX10 hown hK hP 0 rfl rfl 8 (by decide) (hts (.fieldLink RX10 61 "ScissorsTable" "hang" "LScissorsTable$Hang;") (by decide +kernel)) (fun _ h9 => h9) rfl dX10_rankOf_15 ?_
      refine va_get (D := (dC, dI)) (ci := 3) (v := .int 0) (C := RX3) (T := TX3) (N := 7) hx hb hts hiX3 hown hK hP 1 rfl rfl 0 (by decide) (hts (.fieldLink RX10 313 "ScissorsTable$Hang" "rank" "I") (by decide +kernel)) (fun _ h9 => h9) rfl dX10_rankOf_18 ?_
      refine W.widen (k := 0) (n := 0) (Nat.le_of_ble_eq_true rfl) (Nat.le_of_ble_eq_true rfl) ?_
      exact W.iret (v := 0) hx hb hr (fun t ht hW => ⟨⟨0, (), rfl, (by decide), trivial⟩, hS.F ht⟩) hS.2.2 dX10_rankOf_21
    · refine lv_aload_n hx hb dX10_rankOf_9 rfl (lv_at hl 0 rfl) ?_
      refine lv_iload_n hx hb dX10_rankOf_10 rfl (lv_at hl 1 rfl) ?_
      have hPc := hP.sub (ws' := [(x0, .inr (10, [.ref xTape, .ref xReader, .ref xBag, .ref xBld, .ref xAng, .ref xSum, .ref xPik, .int 0, .ref xHan, .ref xIns, .ref xShr, .ref xSta, .ref xTur])), (xSum, .inr (8, [.ref sM, .ref sP, .ref sA, .int 0])), (xHan, .inr (3, [.int 0, .int 0, .int 0, .ref hH, .ref hR, .ref hT, .ref hM])), (hH, .inl (cI, 7, (.inl (fun _ => 0)))), (hT, .inl (cJ, 7, (.inr (.inl (fun _ => 0))))), (hM, .inl (cJ, 6, (.inr (.inl (fun _ => 0)))))]) [0, 1, 2, 3, 4, 5] rfl
      have hDc := hD.sub (ws' := [(x0, .inr (10, [.ref xTape, .ref xReader, .ref xBag, .ref xBld, .ref xAng, .ref xSum, .ref xPik, .int 0, .ref xHan, .ref xIns, .ref xShr, .ref xSta, .ref xTur])), (xSum, .inr (8, [.ref sM, .ref sP, .ref sA, .int 0])), (xHan, .inr (3, [.int 0, .int 0, .int 0, .ref hH, .ref hR, .ref hT, .ref hM])), (hH, .inl (cI, 7, (.inl (fun _ => 0)))), (hT, .inl (cJ, 7, (.inr (.inl (fun _ => 0))))), (hM, .inl (cJ, 6, (.inr (.inl (fun _ => 0)))))]) [0, 1, 2, 3, 4, 5] (by decide) rfl
      have hFc := va_free (wc := [(x0, .inr (10, [.ref xTape, .ref xReader, .ref xBag, .ref xBld, .ref xAng, .ref xSum, .ref xPik, .int 0, .ref xHan, .ref xIns, .ref xShr, .ref xSta, .ref xTur])), (xSum, .inr (8, [.ref sM, .ref sP, .ref sA, .int 0])), (xHan, .inr (3, [.int 0, .int 0, .int 0, .ref hH, .ref hR, .ref hT, .ref hM])), (hH, .inl (cI, 7, (.inl (fun _ => 0)))), (hT, .inl (cJ, 7, (.inr (.inl (fun _ => 0))))), (hM, .inl (cJ, 6, (.inr (.inl (fun _ => 0)))))]) hD hS hA [0, 1, 2, 3, 4, 5] rfl
      refine va_callv (va_runV (As := [.int 9]) (rest := []) ⟨hx, hb, hml, hown, hts⟩ (c_X10_hangSolids_9 l dC dI cB cI cJ H.size x0 xTape xReader xBag xBld xAng xSum xPik xHan xIns xShr xSta xTur sM sP sA hH hR hT hM (fun _ => 0) (fun _ => 0)) (cwV 1 hts gX10_rankOf_X10_hangSolids rfl rfl rfl (by decide +kernel) ⟨Nat.le_of_ble_eq_true rfl, Nat.le_of_ble_eq_true rfl⟩) ⟨fun a U g mk q => by obtain ⟨q0, q1, qP, qK, qD, qN0⟩ := q; exact ⟨q0, q1, qP, va_K.moved (u := U) (U := U.calling g mk a) (Vm.Alike.refl U.vm) qK, qD, va_Nw.same rfl rfl qN0⟩, va_recv hK hP (ci := 10) (q0 := 0) rfl rfl, fun U hU hW => ⟨rfl, by rw [hU], by rw [hU]; exact hPc, va_K.moved hW.alike hK, hDc.weaken (fun _ _ _ _ => trivial), va_Nw.warmM hW hN0⟩⟩ rfl rfl hl.1 rfl (lv_room (Nat.le_of_ble_eq_true rfl)) dX10_rankOf_11 ⟨Nat.le_of_ble_eq_true rfl, Nat.le_of_ble_eq_true rfl⟩) hS (fun q _ h => hFc q h) hFc (fun u t H1 locs ht hvm hw hB hz1 hk1 hS => ?_)
      obtain ⟨hP1, hK1, hD1⟩ := hB
      rw [ht] at hP1
      obtain ⟨hP, hD⟩ := va_join (wr := []) (w1 := [(x0, .inr (10, [.ref xTape, .ref xReader, .ref xBag, .ref xBld, .ref xAng, .ref xSum, .ref xPik, .int 0, .ref xHan, .ref xIns, .ref xShr, .ref xSta, .ref xTur])), (xHan, .inr (3, [.int 0, .int 2, .int 1, .ref hH, .ref hR, .ref hT, .ref hM])), (xSum, .inr (8, [.ref sM, .ref sP, .ref sA, .int 0])), (hH, .inl (cI, 7, (.inl (upd (upd (fun _ => 0) (0 : Int32).toNatClampNeg 0) (0 : Int32).toNatClampNeg 3)))), (hT, .inl (cJ, 7, (.inr (.inl (vp_updL (vp_updL (fun _ => 0) (0 : Int32).toNatClampNeg 1) (0 : Int32).toNatClampNeg 1))))), (hM, .inl (cJ, 6, (.inr (.inl (vp_updL (fun _ => 0) (0 : Int32).toNatClampNeg 1)))))]) hP hD [0, 1, 2, 3, 4, 5] [] rfl rfl (by decide) (by decide) hk1 hFc hP1 hD1
      generalize H1 = H at hP hS ⊢
      have hP : va_P (dC, dI) vwCl [(x0, .inr (10, [.ref xTape, .ref xReader, .ref xBag, .ref xBld, .ref xAng, .ref xSum, .ref xPik, .int 0, .ref xHan, .ref xIns, .ref xShr, .ref xSta, .ref xTur])), (xHan, .inr (3, [.int 0, .int 2, .int 1, .ref hH, .ref hR, .ref hT, .ref hM])), (xSum, .inr (8, [.ref sM, .ref sP, .ref sA, .int 0])), (hH, .inl (cI, 7, (.inl (upd (upd (fun _ => 0) (0 : Int32).toNatClampNeg 0) (0 : Int32).toNatClampNeg 3)))), (hT, .inl (cJ, 7, (.inr (.inl (vp_updL (vp_updL (fun _ => 0) (0 : Int32).toNatClampNeg 1) (0 : Int32).toNatClampNeg 1))))), (hM, .inl (cJ, 6, (.inr (.inl (vp_updL (fun _ => 0) (0 : Int32).toNatClampNeg 1)))))] H := hP
      have hD : va_D A [(x0, .inr (10, [.ref xTape, .ref xReader, .ref xBag, .ref xBld, .ref xAng, .ref xSum, .ref xPik, .int 0, .ref xHan, .ref xIns, .ref xShr, .ref xSta, .ref xTur])), (xHan, .inr (3, [.int 0, .int 2, .int 1, .ref hH, .ref hR, .ref hT, .ref hM])), (xSum, .inr (8, [.ref sM, .ref sP, .ref sA, .int 0])), (hH, .inl (cI, 7, (.inl (upd (upd (fun _ => 0) (0 : Int32).toNatClampNeg 0) (0 : Int32).toNatClampNeg 3)))), (hT, .inl (cJ, 7, (.inr (.inl (vp_updL (vp_updL (fun _ => 0) (0 : Int32).toNatClampNeg 1) (0 : Int32).toNatClampNeg 1))))), (hM, .inl (cJ, 6, (.inr (.inl (vp_updL (fun _ => 0) (0 : Int32).toNatClampNeg 1)))))] := hD
      refine lv_aload_n hx hb dX10_rankOf_14 rfl (lv_at hl 0 rfl) ?_
      refine va_get (D := (dC, dI)) (ci := 10) (v := .ref xHan) (C := RX10) (T := TX10) (N := 13) hx hb hts hiX10 hown hK hP 0 rfl rfl 8 (by decide) (hts (.fieldLink RX10 61 "ScissorsTable" "hang" "LScissorsTable$Hang;") (by decide +kernel)) (fun _ h9 => h9) rfl dX10_rankOf_15 ?_
      refine va_get (D := (dC, dI)) (ci := 3) (v := .int 0) (C := RX3) (T := TX3) (N := 7) hx hb hts hiX3 hown hK hP 1 rfl rfl 0 (by decide) (hts (.fieldLink RX10 313 "ScissorsTable$Hang" "rank" "I") (by decide +kernel)) (fun _ h9 => h9) rfl dX10_rankOf_18 ?_
      refine W.widen (k := 0) (n := 0) (Nat.le_of_ble_eq_true rfl) (Nat.le_of_ble_eq_true rfl) ?_
      exact W.iret (v := 0) hx hb hr (fun t ht hW => ⟨⟨0, (), rfl, (by decide), trivial⟩, hS.F ht⟩) hS.2.2 dX10_rankOf_21
    · refine lv_aload_n hx hb dX10_rankOf_9 rfl (lv_at hl 0 rfl) ?_
      refine lv_iload_n hx hb dX10_rankOf_10 rfl (lv_at hl 1 rfl) ?_
      have hPc := hP.sub (ws' := [(x0, .inr (10, [.ref xTape, .ref xReader, .ref xBag, .ref xBld, .ref xAng, .ref xSum, .ref xPik, .int 0, .ref xHan, .ref xIns, .ref xShr, .ref xSta, .ref xTur])), (xSum, .inr (8, [.ref sM, .ref sP, .ref sA, .int 0])), (xHan, .inr (3, [.int 0, .int 0, .int 0, .ref hH, .ref hR, .ref hT, .ref hM])), (hH, .inl (cI, 7, (.inl (fun _ => 0)))), (hT, .inl (cJ, 7, (.inr (.inl (fun _ => 0))))), (hM, .inl (cJ, 6, (.inr (.inl (fun _ => 0)))))]) [0, 1, 2, 3, 4, 5] rfl
      have hDc := hD.sub (ws' := [(x0, .inr (10, [.ref xTape, .ref xReader, .ref xBag, .ref xBld, .ref xAng, .ref xSum, .ref xPik, .int 0, .ref xHan, .ref xIns, .ref xShr, .ref xSta, .ref xTur])), (xSum, .inr (8, [.ref sM, .ref sP, .ref sA, .int 0])), (xHan, .inr (3, [.int 0, .int 0, .int 0, .ref hH, .ref hR, .ref hT, .ref hM])), (hH, .inl (cI, 7, (.inl (fun _ => 0)))), (hT, .inl (cJ, 7, (.inr (.inl (fun _ => 0))))), (hM, .inl (cJ, 6, (.inr (.inl (fun _ => 0)))))]) [0, 1, 2, 3, 4, 5] (by decide) rfl
      have hFc := va_free (wc := [(x0, .inr (10, [.ref xTape, .ref xReader, .ref xBag, .ref xBld, .ref xAng, .ref xSum, .ref xPik, .int 0, .ref xHan, .ref xIns, .ref xShr, .ref xSta, .ref xTur])), (xSum, .inr (8, [.ref sM, .ref sP, .ref sA, .int 0])), (xHan, .inr (3, [.int 0, .int 0, .int 0, .ref hH, .ref hR, .ref hT, .ref hM])), (hH, .inl (cI, 7, (.inl (fun _ => 0)))), (hT, .inl (cJ, 7, (.inr (.inl (fun _ => 0))))), (hM, .inl (cJ, 6, (.inr (.inl (fun _ => 0)))))]) hD hS hA [0, 1, 2, 3, 4, 5] rfl
      refine va_callv (va_runV (As := [.int 10]) (rest := []) ⟨hx, hb, hml, hown, hts⟩ (c_X10_hangSolids_10 l dC dI cB cI cJ H.size x0 xTape xReader xBag xBld xAng xSum xPik xHan xIns xShr xSta xTur sM sP sA hH hR hT hM (fun _ => 0) (fun _ => 0)) (cwV 1 hts gX10_rankOf_X10_hangSolids rfl rfl rfl (by decide +kernel) ⟨Nat.le_of_ble_eq_true rfl, Nat.le_of_ble_eq_true rfl⟩) ⟨fun a U g mk q => by obtain ⟨q0, q1, qP, qK, qD, qN0⟩ := q; exact ⟨q0, q1, qP, va_K.moved (u := U) (U := U.calling g mk a) (Vm.Alike.refl U.vm) qK, qD, va_Nw.same rfl rfl qN0⟩, va_recv hK hP (ci := 10) (q0 := 0) rfl rfl, fun U hU hW => ⟨rfl, by rw [hU], by rw [hU]; exact hPc, va_K.moved hW.alike hK, hDc.weaken (fun _ _ _ _ => trivial), va_Nw.warmM hW hN0⟩⟩ rfl rfl hl.1 rfl (lv_room (Nat.le_of_ble_eq_true rfl)) dX10_rankOf_11 ⟨Nat.le_of_ble_eq_true rfl, Nat.le_of_ble_eq_true rfl⟩) hS (fun q _ h => hFc q h) hFc (fun u t H1 locs ht hvm hw hB hz1 hk1 hS => ?_)
      obtain ⟨hP1, hK1, hD1⟩ := hB
      rw [ht] at hP1
      obtain ⟨hP, hD⟩ := va_join (wr := []) (w1 := [(x0, .inr (10, [.ref xTape, .ref xReader, .ref xBag, .ref xBld, .ref xAng, .ref xSum, .ref xPik, .int 0, .ref xHan, .ref xIns, .ref xShr, .ref xSta, .ref xTur])), (xHan, .inr (3, [.int 0, .int 2, .int 1, .ref hH, .ref hR, .ref hT, .ref hM])), (xSum, .inr (8, [.ref sM, .ref sP, .ref sA, .int 0])), (hH, .inl (cI, 7, (.inl (upd (upd (fun _ => 0) (0 : Int32).toNatClampNeg 1) (0 : Int32).toNatClampNeg 3)))), (hT, .inl (cJ, 7, (.inr (.inl (vp_updL (vp_updL (fun _ => 0) (0 : Int32).toNatClampNeg 1) (0 : Int32).toNatClampNeg 1))))), (hM, .inl (cJ, 6, (.inr (.inl (vp_updL (fun _ => 0) (0 : Int32).toNatClampNeg 1)))))]) hP hD [0, 1, 2, 3, 4, 5] [] rfl rfl (by decide) (by decide) hk1 hFc hP1 hD1
      generalize H1 = H at hP hS ⊢
      have hP : va_P (dC, dI) vwCl [(x0, .inr (10, [.ref xTape, .ref xReader, .ref xBag, .ref xBld, .ref xAng, .ref xSum, .ref xPik, .int 0, .ref xHan, .ref xIns, .ref xShr, .ref xSta, .ref xTur])), (xHan, .inr (3, [.int 0, .int 2, .int 1, .ref hH, .ref hR, .ref hT, .ref hM])), (xSum, .inr (8, [.ref sM, .ref sP, .ref sA, .int 0])), (hH, .inl (cI, 7, (.inl (upd (upd (fun _ => 0) (0 : Int32).toNatClampNeg 1) (0 : Int32).toNatClampNeg 3)))), (hT, .inl (cJ, 7, (.inr (.inl (vp_updL (vp_updL (fun _ => 0) (0 : Int32).toNatClampNeg 1) (0 : Int32).toNatClampNeg 1))))), (hM, .inl (cJ, 6, (.inr (.inl (vp_updL (fun _ => 0) (0 : Int32).toNatClampNeg 1)))))] H := hP
      have hD : va_D A [(x0, .inr (10, [.ref xTape, .ref xReader, .ref xBag, .ref xBld, .ref xAng, .ref xSum, .ref xPik, .int 0, .ref xHan, .ref xIns, .ref xShr, .ref xSta, .ref xTur])), (xHan, .inr (3, [.int 0, .int 2, .int 1, .ref hH, .ref hR, .ref hT, .ref hM])), (xSum, .inr (8, [.ref sM, .ref sP, .ref sA, .int 0])), (hH, .inl (cI, 7, (.inl (upd (upd (fun _ => 0) (0 : Int32).toNatClampNeg 1) (0 : Int32).toNatClampNeg 3)))), (hT, .inl (cJ, 7, (.inr (.inl (vp_updL (vp_updL (fun _ => 0) (0 : Int32).toNatClampNeg 1) (0 : Int32).toNatClampNeg 1))))), (hM, .inl (cJ, 6, (.inr (.inl (vp_updL (fun _ => 0) (0 : Int32).toNatClampNeg 1)))))] := hD
      refine lv_aload_n hx hb dX10_rankOf_14 rfl (lv_at hl 0 rfl) ?_
      refine va_get (D := (dC, dI)) (ci := 10) (v := .ref xHan) (C := RX10) (T := TX10) (N := 13) hx hb hts hiX10 hown hK hP 0 rfl rfl 8 (by decide) (hts (.fieldLink RX10 61 "ScissorsTable" "hang" "LScissorsTable$Hang;") (by decide +kernel)) (fun _ h9 => h9) rfl dX10_rankOf_15 ?_
      refine va_get (D := (dC, dI)) (ci := 3) (v := .int 0) (C := RX3) (T := TX3) (N := 7) hx hb hts hiX3 hown hK hP 1 rfl rfl 0 (by decide) (hts (.fieldLink RX10 313 "ScissorsTable$Hang" "rank" "I") (by decide +kernel)) (fun _ h9 => h9) rfl dX10_rankOf_18 ?_
      refine W.widen (k := 0) (n := 0) (Nat.le_of_ble_eq_true rfl) (Nat.le_of_ble_eq_true rfl) ?_
      exact W.iret (v := 0) hx hb hr (fun t ht hW => ⟨⟨0, (), rfl, (by decide), trivial⟩, hS.F ht⟩) hS.2.2 dX10_rankOf_21
    · refine lv_aload_n hx hb dX10_rankOf_9 rfl (lv_at hl 0 rfl) ?_
      refine lv_iload_n hx hb dX10_rankOf_10 rfl (lv_at hl 1 rfl) ?_
      have hPc := hP.sub (ws' := [(x0, .inr (10, [.ref xTape, .ref xReader, .ref xBag, .ref xBld, .ref xAng, .ref xSum, .ref xPik, .int 0, .ref xHan, .ref xIns, .ref xShr, .ref xSta, .ref xTur])), (xSum, .inr (8, [.ref sM, .ref sP, .ref sA, .int 0])), (xHan, .inr (3, [.int 0, .int 0, .int 0, .ref hH, .ref hR, .ref hT, .ref hM])), (hH, .inl (cI, 7, (.inl (fun _ => 0)))), (hT, .inl (cJ, 7, (.inr (.inl (fun _ => 0))))), (hM, .inl (cJ, 6, (.inr (.inl (fun _ => 0)))))]) [0, 1, 2, 3, 4, 5] rfl
      have hDc := hD.sub (ws' := [(x0, .inr (10, [.ref xTape, .ref xReader, .ref xBag, .ref xBld, .ref xAng, .ref xSum, .ref xPik, .int 0, .ref xHan, .ref xIns, .ref xShr, .ref xSta, .ref xTur])), (xSum, .inr (8, [.ref sM, .ref sP, .ref sA, .int 0])), (xHan, .inr (3, [.int 0, .int 0, .int 0, .ref hH, .ref hR, .ref hT, .ref hM])), (hH, .inl (cI, 7, (.inl (fun _ => 0)))), (hT, .inl (cJ, 7, (.inr (.inl (fun _ => 0))))), (hM, .inl (cJ, 6, (.inr (.inl (fun _ => 0)))))]) [0, 1, 2, 3, 4, 5] (by decide) rfl
      have hFc := va_free (wc := [(x0, .inr (10, [.ref xTape, .ref xReader, .ref xBag, .ref xBld, .ref xAng, .ref xSum, .ref xPik, .int 0, .ref xHan, .ref xIns, .ref xShr, .ref xSta, .ref xTur])), (xSum, .inr (8, [.ref sM, .ref sP, .ref sA, .int 0])), (xHan, .inr (3, [.int 0, .int 0, .int 0, .ref hH, .ref hR, .ref hT, .ref hM])), (hH, .inl (cI, 7, (.inl (fun _ => 0)))), (hT, .inl (cJ, 7, (.inr (.inl (fun _ => 0))))), (hM, .inl (cJ, 6, (.inr (.inl (fun _ => 0)))))]) hD hS hA [0, 1, 2, 3, 4, 5] rfl
      refine va_callv (va_runV (As := [.int 11]) (rest := []) ⟨hx, hb, hml, hown, hts⟩ (c_X10_hangSolids_11 l dC dI cB cI cJ H.size x0 xTape xReader xBag xBld xAng xSum xPik xHan xIns xShr xSta xTur sM sP sA hH hR hT hM (fun _ => 0) (fun _ => 0)) (cwV 1 hts gX10_rankOf_X10_hangSolids rfl rfl rfl (by decide +kernel) ⟨Nat.le_of_ble_eq_true rfl, Nat.le_of_ble_eq_true rfl⟩) ⟨fun a U g mk q => by obtain ⟨q0, q1, qP, qK, qD, qN0⟩ := q; exact ⟨q0, q1, qP, va_K.moved (u := U) (U := U.calling g mk a) (Vm.Alike.refl U.vm) qK, qD, va_Nw.same rfl rfl qN0⟩, va_recv hK hP (ci := 10) (q0 := 0) rfl rfl, fun U hU hW => ⟨rfl, by rw [hU], by rw [hU]; exact hPc, va_K.moved hW.alike hK, hDc.weaken (fun _ _ _ _ => trivial), va_Nw.warmM hW hN0⟩⟩ rfl rfl hl.1 rfl (lv_room (Nat.le_of_ble_eq_true rfl)) dX10_rankOf_11 ⟨Nat.le_of_ble_eq_true rfl, Nat.le_of_ble_eq_true rfl⟩) hS (fun q _ h => hFc q h) hFc (fun u t H1 locs ht hvm hw hB hz1 hk1 hS => ?_)
      obtain ⟨hP1, hK1, hD1⟩ := hB
      rw [ht] at hP1
      obtain ⟨hP, hD⟩ := va_join (wr := []) (w1 := [(x0, .inr (10, [.ref xTape, .ref xReader, .ref xBag, .ref xBld, .ref xAng, .ref xSum, .ref xPik, .int 0, .ref xHan, .ref xIns, .ref xShr, .ref xSta, .ref xTur])), (xHan, .inr (3, [.int 0, .int 3, .int 1, .ref hH, .ref hR, .ref hT, .ref hM])), (xSum, .inr (8, [.ref sM, .ref sP, .ref sA, .int 0])), (hH, .inl (cI, 7, (.inl (upd (upd (upd (fun _ => 0) (0 : Int32).toNatClampNeg 0) (0 : Int32).toNatClampNeg 1) (0 : Int32).toNatClampNeg 3)))), (hT, .inl (cJ, 7, (.inr (.inl (vp_updL (vp_updL (vp_updL (fun _ => 0) (0 : Int32).toNatClampNeg 1) (0 : Int32).toNatClampNeg 1) (0 : Int32).toNatClampNeg 1))))), (hM, .inl (cJ, 6, (.inr (.inl (vp_updL (fun _ => 0) (0 : Int32).toNatClampNeg 1)))))]) hP hD [0, 1, 2, 3, 4, 5] [] rfl rfl (by decide) (by decide) hk1 hFc hP1 hD1
      generalize H1 = H at hP hS ⊢
      have hP : va_P (dC, dI) vwCl [(x0, .inr (10, [.ref xTape, .ref xReader, .ref xBag, .ref xBld, .ref xAng, .ref xSum, .ref xPik, .int 0, .ref xHan, .ref xIns, .ref xShr, .ref xSta, .ref xTur])), (xHan, .inr (3, [.int 0, .int 3, .int 1, .ref hH, .ref hR, .ref hT, .ref hM])), (xSum, .inr (8, [.ref sM, .ref sP, .ref sA, .int 0])), (hH, .inl (cI, 7, (.inl (upd (upd (upd (fun _ => 0) (0 : Int32).toNatClampNeg 0) (0 : Int32).toNatClampNeg 1) (0 : Int32).toNatClampNeg 3)))), (hT, .inl (cJ, 7, (.inr (.inl (vp_updL (vp_updL (vp_updL (fun _ => 0) (0 : Int32).toNatClampNeg 1) (0 : Int32).toNatClampNeg 1) (0 : Int32).toNatClampNeg 1))))), (hM, .inl (cJ, 6, (.inr (.inl (vp_updL (fun _ => 0) (0 : Int32).toNatClampNeg 1)))))] H := hP
      have hD : va_D A [(x0, .inr (10, [.ref xTape, .ref xReader, .ref xBag, .ref xBld, .ref xAng, .ref xSum, .ref xPik, .int 0, .ref xHan, .ref xIns, .ref xShr, .ref xSta, .ref xTur])), (xHan, .inr (3, [.int 0, .int 3, .int 1, .ref hH, .ref hR, .ref hT, .ref hM])), (xSum, .inr (8, [.ref sM, .ref sP, .ref sA, .int 0])), (hH, .inl (cI, 7, (.inl (upd (upd (upd (fun _ => 0) (0 : Int32).toNatClampNeg 0) (0 : Int32).toNatClampNeg 1) (0 : Int32).toNatClampNeg 3)))), (hT, .inl (cJ, 7, (.inr (.inl (vp_updL (vp_updL (vp_updL (fun _ => 0) (0 : Int32).toNatClampNeg 1) (0 : Int32).toNatClampNeg 1) (0 : Int32).toNatClampNeg 1))))), (hM, .inl (cJ, 6, (.inr (.inl (vp_updL (fun _ => 0) (0 : Int32).toNatClampNeg 1)))))] := hD
      refine lv_aload_n hx hb dX10_rankOf_14 rfl (lv_at hl 0 rfl) ?_
      refine va_get (D := (dC, dI)) (ci := 10) (v := .ref xHan) (C := RX10) (T := TX10) (N := 13) hx hb hts hiX10 hown hK hP 0 rfl rfl 8 (by decide) (hts (.fieldLink RX10 61 "ScissorsTable" "hang" "LScissorsTable$Hang;") (by decide +kernel)) (fun _ h9 => h9) rfl dX10_rankOf_15 ?_
      refine va_get (D := (dC, dI)) (ci := 3) (v := .int 0) (C := RX3) (T := TX3) (N := 7) hx hb hts hiX3 hown hK hP 1 rfl rfl 0 (by decide) (hts (.fieldLink RX10 313 "ScissorsTable$Hang" "rank" "I") (by decide +kernel)) (fun _ h9 => h9) rfl dX10_rankOf_18 ?_
      refine W.widen (k := 0) (n := 0) (Nat.le_of_ble_eq_true rfl) (Nat.le_of_ble_eq_true rfl) ?_
      exact W.iret (v := 0) hx hb hr (fun t ht hW => ⟨⟨0, (), rfl, (by decide), trivial⟩, hS.F ht⟩) hS.2.2 dX10_rankOf_21
    · refine lv_aload_n hx hb dX10_rankOf_9 rfl (lv_at hl 0 rfl) ?_
      refine lv_iload_n hx hb dX10_rankOf_10 rfl (lv_at hl 1 rfl) ?_
      have hPc := hP.sub (ws' := [(x0, .inr (10, [.ref xTape, .ref xReader, .ref xBag, .ref xBld, .ref xAng, .ref xSum, .ref xPik, .int 0, .ref xHan, .ref xIns, .ref xShr, .ref xSta, .ref xTur])), (xSum, .inr (8, [.ref sM, .ref sP, .ref sA, .int 0])), (xHan, .inr (3, [.int 0, .int 0, .int 0, .ref hH, .ref hR, .ref hT, .ref hM])), (hH, .inl (cI, 7, (.inl (fun _ => 0)))), (hT, .inl (cJ, 7, (.inr (.inl (fun _ => 0))))), (hM, .inl (cJ, 6, (.inr (.inl (fun _ => 0)))))]) [0, 1, 2, 3, 4, 5] rfl
      have hDc := hD.sub (ws' := [(x0, .inr (10, [.ref xTape, .ref xReader, .ref xBag, .ref xBld, .ref xAng, .ref xSum, .ref xPik, .int 0, .ref xHan, .ref xIns, .ref xShr, .ref xSta, .ref xTur])), (xSum, .inr (8, [.ref sM, .ref sP, .ref sA, .int 0])), (xHan, .inr (3, [.int 0, .int 0, .int 0, .ref hH, .ref hR, .ref hT, .ref hM])), (hH, .inl (cI, 7, (.inl (fun _ => 0)))), (hT, .inl (cJ, 7, (.inr (.inl (fun _ => 0))))), (hM, .inl (cJ, 6, (.inr (.inl (fun _ => 0)))))]) [0, 1, 2, 3, 4, 5] (by decide) rfl
      have hFc := va_free (wc := [(x0, .inr (10, [.ref xTape, .ref xReader, .ref xBag, .ref xBld, .ref xAng, .ref xSum, .ref xPik, .int 0, .ref xHan, .ref xIns, .ref xShr, .ref xSta, .ref xTur])), (xSum, .inr (8, [.ref sM, .ref sP, .ref sA, .int 0])), (xHan, .inr (3, [.int 0, .int 0, .int 0, .ref hH, .ref hR, .ref hT, .ref hM])), (hH, .inl (cI, 7, (.inl (fun _ => 0)))), (hT, .inl (cJ, 7, (.inr (.inl (fun _ => 0))))), (hM, .inl (cJ, 6, (.inr (.inl (fun _ => 0)))))]) hD hS hA [0, 1, 2, 3, 4, 5] rfl
      refine va_callv (va_runV (As := [.int 12]) (rest := []) ⟨hx, hb, hml, hown, hts⟩ (c_X10_hangSolids_12 l dC dI cB cI cJ H.size x0 xTape xReader xBag xBld xAng xSum xPik xHan xIns xShr xSta xTur sM sP sA hH hR hT hM (fun _ => 0) (fun _ => 0)) (cwV 1 hts gX10_rankOf_X10_hangSolids rfl rfl rfl (by decide +kernel) ⟨Nat.le_of_ble_eq_true rfl, Nat.le_of_ble_eq_true rfl⟩) ⟨fun a U g mk q => by obtain ⟨q0, q1, qP, qK, qD, qN0⟩ := q; exact ⟨q0, q1, qP, va_K.moved (u := U) (U := U.calling g mk a) (Vm.Alike.refl U.vm) qK, qD, va_Nw.same rfl rfl qN0⟩, va_recv hK hP (ci := 10) (q0 := 0) rfl rfl, fun U hU hW => ⟨rfl, by rw [hU], by rw [hU]; exact hPc, va_K.moved hW.alike hK, hDc.weaken (fun _ _ _ _ => trivial), va_Nw.warmM hW hN0⟩⟩ rfl rfl hl.1 rfl (lv_room (Nat.le_of_ble_eq_true rfl)) dX10_rankOf_11 ⟨Nat.le_of_ble_eq_true rfl, Nat.le_of_ble_eq_true rfl⟩) hS (fun q _ h => hFc q h) hFc (fun u t H1 locs ht hvm hw hB hz1 hk1 hS => ?_)
      obtain ⟨hP1, hK1, hD1⟩ := hB
      rw [ht] at hP1
      obtain ⟨hP, hD⟩ := va_join (wr := []) (w1 := [(x0, .inr (10, [.ref xTape, .ref xReader, .ref xBag, .ref xBld, .ref xAng, .ref xSum, .ref xPik, .int 0, .ref xHan, .ref xIns, .ref xShr, .ref xSta, .ref xTur])), (xHan, .inr (3, [.int 0, .int 2, .int 1, .ref hH, .ref hR, .ref hT, .ref hM])), (xSum, .inr (8, [.ref sM, .ref sP, .ref sA, .int 0])), (hH, .inl (cI, 7, (.inl (upd (upd (fun _ => 0) (0 : Int32).toNatClampNeg 2) (0 : Int32).toNatClampNeg 3)))), (hT, .inl (cJ, 7, (.inr (.inl (vp_updL (vp_updL (fun _ => 0) (0 : Int32).toNatClampNeg 1) (0 : Int32).toNatClampNeg 1))))), (hM, .inl (cJ, 6, (.inr (.inl (vp_updL (fun _ => 0) (0 : Int32).toNatClampNeg 1)))))]) hP hD [0, 1, 2, 3, 4, 5] [] rfl rfl (by decide) (by decide) hk1 hFc hP1 hD1
      generalize H1 = H at hP hS ⊢
      have hP : va_P (dC, dI) vwCl [(x0, .inr (10, [.ref xTape, .ref xReader, .ref xBag, .ref xBld, .ref xAng, .ref xSum, .ref xPik, .int 0, .ref xHan, .ref xIns, .ref xShr, .ref xSta, .ref xTur])), (xHan, .inr (3, [.int 0, .int 2, .int 1, .ref hH, .ref hR, .ref hT, .ref hM])), (xSum, .inr (8, [.ref sM, .ref sP, .ref sA, .int 0])), (hH, .inl (cI, 7, (.inl (upd (upd (fun _ => 0) (0 : Int32).toNatClampNeg 2) (0 : Int32).toNatClampNeg 3)))), (hT, .inl (cJ, 7, (.inr (.inl (vp_updL (vp_updL (fun _ => 0) (0 : Int32).toNatClampNeg 1) (0 : Int32).toNatClampNeg 1))))), (hM, .inl (cJ, 6, (.inr (.inl (vp_updL (fun _ => 0) (0 : Int32).toNatClampNeg 1)))))] H := hP
      have hD : va_D A [(x0, .inr (10, [.ref xTape, .ref xReader, .ref xBag, .ref xBld, .ref xAng, .ref xSum, .ref xPik, .int 0, .ref xHan, .ref xIns, .ref xShr, .ref xSta, .ref xTur])), (xHan, .inr (3, [.int 0, .int 2, .int 1, .ref hH, .ref hR, .ref hT, .ref hM])), (xSum, .inr (8, [.ref sM, .ref sP, .ref sA, .int 0])), (hH, .inl (cI, 7, (.inl (upd (upd (fun _ => 0) (0 : Int32).toNatClampNeg 2) (0 : Int32).toNatClampNeg 3)))), (hT, .inl (cJ, 7, (.inr (.inl (vp_updL (vp_updL (fun _ => 0) (0 : Int32).toNatClampNeg 1) (0 : Int32).toNatClampNeg 1))))), (hM, .inl (cJ, 6, (.inr (.inl (vp_updL (fun _ => 0) (0 : Int32).toNatClampNeg 1)))))] := hD
      refine lv_aload_n hx hb dX10_rankOf_14 rfl (lv_at hl 0 rfl) ?_
      refine va_get (D := (dC, dI)) (ci := 10) (v := .ref xHan) (C := RX10) (T := TX10) (N := 13) hx hb hts hiX10 hown hK hP 0 rfl rfl 8 (by decide) (hts (.fieldLink RX10 61 "ScissorsTable" "hang" "LScissorsTable$Hang;") (by decide +kernel)) (fun _ h9 => h9) rfl dX10_rankOf_15 ?_
      refine va_get (D := (dC, dI)) (ci := 3) (v := .int 0) (C := RX3) (T := TX3) (N := 7) hx hb hts hiX3 hown hK hP 1 rfl rfl 0 (by decide) (hts (.fieldLink RX10 313 "ScissorsTable$Hang" "rank" "I") (by decide +kernel)) (fun _ h9 => h9) rfl dX10_rankOf_18 ?_
      refine W.widen (k := 0) (n := 0) (Nat.le_of_ble_eq_true rfl) (Nat.le_of_ble_eq_true rfl) ?_
      exact W.iret (v := 0) hx hb hr (fun t ht hW => ⟨⟨0, (), rfl, (by decide), trivial⟩, hS.F ht⟩) hS.2.2 dX10_rankOf_21
    · refine lv_aload_n hx hb dX10_rankOf_9 rfl (lv_at hl 0 rfl) ?_
      refine lv_iload_n hx hb dX10_rankOf_10 rfl (lv_at hl 1 rfl) ?_
      have hPc := hP.sub (ws' := [(x0, .inr (10, [.ref xTape, .ref xReader, .ref xBag, .ref xBld, .ref xAng, .ref xSum, .ref xPik, .int 0, .ref xHan, .ref xIns, .ref xShr, .ref xSta, .ref xTur])), (xSum, .inr (8, [.ref sM, .ref sP, .ref sA, .int 0])), (xHan, .inr (3, [.int 0, .int 0, .int 0, .ref hH, .ref hR, .ref hT, .ref hM])), (hH, .inl (cI, 7, (.inl (fun _ => 0)))), (hT, .inl (cJ, 7, (.inr (.inl (fun _ => 0))))), (hM, .inl (cJ, 6, (.inr (.inl (fun _ => 0)))))]) [0, 1, 2, 3, 4, 5] rfl
      have hDc := hD.sub (ws' := [(x0, .inr (10, [.ref xTape, .ref xReader, .ref xBag, .ref xBld, .ref xAng, .ref xSum, .ref xPik, .int 0, .ref xHan, .ref xIns, .ref xShr, .ref xSta, .ref xTur])), (xSum, .inr (8, [.ref sM, .ref sP, .ref sA, .int 0])), (xHan, .inr (3, [.int 0, .int 0, .int 0, .ref hH, .ref hR, .ref hT, .ref hM])), (hH, .inl (cI, 7, (.inl (fun _ => 0)))), (hT, .inl (cJ, 7, (.inr (.inl (fun _ => 0))))), (hM, .inl (cJ, 6, (.inr (.inl (fun _ => 0)))))]) [0, 1, 2, 3, 4, 5] (by decide) rfl
      have hFc := va_free (wc := [(x0, .inr (10, [.ref xTape, .ref xReader, .ref xBag, .ref xBld, .ref xAng, .ref xSum, .ref xPik, .int 0, .ref xHan, .ref xIns, .ref xShr, .ref xSta, .ref xTur])), (xSum, .inr (8, [.ref sM, .ref sP, .ref sA, .int 0])), (xHan, .inr (3, [.int 0, .int 0, .int 0, .ref hH, .ref hR, .ref hT, .ref hM])), (hH, .inl (cI, 7, (.inl (fun _ => 0)))), (hT, .inl (cJ, 7, (.inr (.inl (fun _ => 0))))), (hM, .inl (cJ, 6, (.inr (.inl (fun _ => 0)))))]) hD hS hA [0, 1, 2, 3, 4, 5] rfl
      refine va_callv (va_runV (As := [.int 13]) (rest := []) ⟨hx, hb, hml, hown, hts⟩ (c_X10_hangSolids_13 l dC dI cB cI cJ H.size x0 xTape xReader xBag xBld xAng xSum xPik xHan xIns xShr xSta xTur sM sP sA hH hR hT hM (fun _ => 0) (fun _ => 0)) (cwV 1 hts gX10_rankOf_X10_hangSolids rfl rfl rfl (by decide +kernel) ⟨Nat.le_of_ble_eq_true rfl, Nat.le_of_ble_eq_true rfl⟩) ⟨fun a U g mk q => by obtain ⟨q0, q1, qP, qK, qD, qN0⟩ := q; exact ⟨q0, q1, qP, va_K.moved (u := U) (U := U.calling g mk a) (Vm.Alike.refl U.vm) qK, qD, va_Nw.same rfl rfl qN0⟩, va_recv hK hP (ci := 10) (q0 := 0) rfl rfl, fun U hU hW => ⟨rfl, by rw [hU], by rw [hU]; exact hPc, va_K.moved hW.alike hK, hDc.weaken (fun _ _ _ _ => trivial), va_Nw.warmM hW hN0⟩⟩ rfl rfl hl.1 rfl (lv_room (Nat.le_of_ble_eq_true rfl)) dX10_rankOf_11 ⟨Nat.le_of_ble_eq_true rfl, Nat.le_of_ble_eq_true rfl⟩) hS (fun q _ h => hFc q h) hFc (fun u t H1 locs ht hvm hw hB hz1 hk1 hS => ?_)
      obtain ⟨hP1, hK1, hD1⟩ := hB
      rw [ht] at hP1
      obtain ⟨hP, hD⟩ := va_join (wr := []) (w1 := [(x0, .inr (10, [.ref xTape, .ref xReader, .ref xBag, .ref xBld, .ref xAng, .ref xSum, .ref xPik, .int 0, .ref xHan, .ref xIns, .ref xShr, .ref xSta, .ref xTur])), (xHan, .inr (3, [.int 0, .int 3, .int 1, .ref hH, .ref hR, .ref hT, .ref hM])), (xSum, .inr (8, [.ref sM, .ref sP, .ref sA, .int 0])), (hH, .inl (cI, 7, (.inl (upd (upd (upd (fun _ => 0) (0 : Int32).toNatClampNeg 0) (0 : Int32).toNatClampNeg 2) (0 : Int32).toNatClampNeg 3)))), (hT, .inl (cJ, 7, (.inr (.inl (vp_updL (vp_updL (vp_updL (fun _ => 0) (0 : Int32).toNatClampNeg 1) (0 : Int32).toNatClampNeg 1) (0 : Int32).toNatClampNeg 1))))), (hM, .inl (cJ, 6, (.inr (.inl (vp_updL (fun _ => 0) (0 : Int32).toNatClampNeg 1)))))]) hP hD [0, 1, 2, 3, 4, 5] [] rfl rfl (by decide) (by decide) hk1 hFc hP1 hD1
      generalize H1 = H at hP hS ⊢
      have hP : va_P (dC, dI) vwCl [(x0, .inr (10, [.ref xTape, .ref xReader, .ref xBag, .ref xBld, .ref xAng, .ref xSum, .ref xPik, .int 0, .ref xHan, .ref xIns, .ref xShr, .ref xSta, .ref xTur])), (xHan, .inr (3, [.int 0, .int 3, .int 1, .ref hH, .ref hR, .ref hT, .ref hM])), (xSum, .inr (8, [.ref sM, .ref sP, .ref sA, .int 0])), (hH, .inl (cI, 7, (.inl (upd (upd (upd (fun _ => 0) (0 : Int32).toNatClampNeg 0) (0 : Int32).toNatClampNeg 2) (0 : Int32).toNatClampNeg 3)))), (hT, .inl (cJ, 7, (.inr (.inl (vp_updL (vp_updL (vp_updL (fun _ => 0) (0 : Int32).toNatClampNeg 1) (0 : Int32).toNatClampNeg 1) (0 : Int32).toNatClampNeg 1))))), (hM, .inl (cJ, 6, (.inr (.inl (vp_updL (fun _ => 0) (0 : Int32).toNatClampNeg 1)))))] H := hP
      have hD : va_D A [(x0, .inr (10, [.ref xTape, .ref xReader, .ref xBag, .ref xBld, .ref xAng, .ref xSum, .ref xPik, .int 0, .ref xHan, .ref xIns, .ref xShr, .ref xSta, .ref xTur])), (xHan, .inr (3, [.int 0, .int 3, .int 1, .ref hH, .ref hR, .ref hT, .ref hM])), (xSum, .inr (8, [.ref sM, .ref sP, .ref sA, .int 0])), (hH, .inl (cI, 7, (.inl (upd (upd (upd (fun _ => 0) (0 : Int32).toNatClampNeg 0) (0 : Int32).toNatClampNeg 2) (0 : Int32).toNatClampNeg 3)))), (hT, .inl (cJ, 7, (.inr (.inl (vp_updL (vp_updL (vp_updL (fun _ => 0) (0 : Int32).toNatClampNeg 1) (0 : Int32).toNatClampNeg 1) (0 : Int32).toNatClampNeg 1))))), (hM, .inl (cJ, 6, (.inr (.inl (vp_updL (fun _ => 0) (0 : Int32).toNatClampNeg 1)))))] := hD
      refine lv_aload_n hx hb dX10_rankOf_14 rfl (lv_at hl 0 rfl) ?_
      refine va_get (D := (dC, dI)) (ci := 10) (v := .ref xHan) (C := RX10) (T := TX10) (N := 13) hx hb hts hiX10 hown hK hP 0 rfl rfl 8 (by decide) (hts (.fieldLink RX10 61 "ScissorsTable" "hang" "LScissorsTable$Hang;") (by decide +kernel)) (fun _ h9 => h9) rfl dX10_rankOf_15 ?_
      refine va_get (D := (dC, dI)) (ci := 3) (v := .int 0) (C := RX3) (T := TX3) (N := 7) hx hb hts hiX3 hown hK hP 1 rfl rfl 0 (by decide) (hts (.fieldLink RX10 313 "ScissorsTable$Hang" "rank" "I") (by decide +kernel)) (fun _ h9 => h9) rfl dX10_rankOf_18 ?_
      refine W.widen (k := 0) (n := 0) (Nat.le_of_ble_eq_true rfl) (Nat.le_of_ble_eq_true rfl) ?_
      exact W.iret (v := 0) hx hb hr (fun t ht hW => ⟨⟨0, (), rfl, (by decide), trivial⟩, hS.F ht⟩) hS.2.2 dX10_rankOf_21
    · refine lv_aload_n hx hb dX10_rankOf_9 rfl (lv_at hl 0 rfl) ?_
      refine lv_iload_n hx hb dX10_rankOf_10 rfl (lv_at hl 1 rfl) ?_
      have hPc := hP.sub (ws' := [(x0, .inr (10, [.ref xTape, .ref xReader, .ref xBag, .ref xBld, .ref xAng, .ref xSum, .ref xPik, .int 0, .ref xHan, .ref xIns, .ref xShr, .ref xSta, .ref xTur])), (xSum, .inr (8, [.ref sM, .ref sP, .ref sA, .int 0])), (xHan, .inr (3, [.int 0, .int 0, .int 0, .ref hH, .ref hR, .ref hT, .ref hM])), (hH, .inl (cI, 7, (.inl (fun _ => 0)))), (hT, .inl (cJ, 7, (.inr (.inl (fun _ => 0))))), (hM, .inl (cJ, 6, (.inr (.inl (fun _ => 0)))))]) [0, 1, 2, 3, 4, 5] rfl
      have hDc := hD.sub (ws' := [(x0, .inr (10, [.ref xTape, .ref xReader, .ref xBag, .ref xBld, .ref xAng, .ref xSum, .ref xPik, .int 0, .ref xHan, .ref xIns, .ref xShr, .ref xSta, .ref xTur])), (xSum, .inr (8, [.ref sM, .ref sP, .ref sA, .int 0])), (xHan, .inr (3, [.int 0, .int 0, .int 0, .ref hH, .ref hR, .ref hT, .ref hM])), (hH, .inl (cI, 7, (.inl (fun _ => 0)))), (hT, .inl (cJ, 7, (.inr (.inl (fun _ => 0))))), (hM, .inl (cJ, 6, (.inr (.inl (fun _ => 0)))))]) [0, 1, 2, 3, 4, 5] (by decide) rfl
      have hFc := va_free (wc := [(x0, .inr (10, [.ref xTape, .ref xReader, .ref xBag, .ref xBld, .ref xAng, .ref xSum, .ref xPik, .int 0, .ref xHan, .ref xIns, .ref xShr, .ref xSta, .ref xTur])), (xSum, .inr (8, [.ref sM, .ref sP, .ref sA, .int 0])), (xHan, .inr (3, [.int 0, .int 0, .int 0, .ref hH, .ref hR, .ref hT, .ref hM])), (hH, .inl (cI, 7, (.inl (fun _ => 0)))), (hT, .inl (cJ, 7, (.inr (.inl (fun _ => 0))))), (hM, .inl (cJ, 6, (.inr (.inl (fun _ => 0)))))]) hD hS hA [0, 1, 2, 3, 4, 5] rfl
      refine va_callv (va_runV (As := [.int 14]) (rest := []) ⟨hx, hb, hml, hown, hts⟩ (c_X10_hangSolids_14 l dC dI cB cI cJ H.size x0 xTape xReader xBag xBld xAng xSum xPik xHan xIns xShr xSta xTur sM sP sA hH hR hT hM (fun _ => 0) (fun _ => 0)) (cwV 1 hts gX10_rankOf_X10_hangSolids rfl rfl rfl (by decide +kernel) ⟨Nat.le_of_ble_eq_true rfl, Nat.le_of_ble_eq_true rfl⟩) ⟨fun a U g mk q => by obtain ⟨q0, q1, qP, qK, qD, qN0⟩ := q; exact ⟨q0, q1, qP, va_K.moved (u := U) (U := U.calling g mk a) (Vm.Alike.refl U.vm) qK, qD, va_Nw.same rfl rfl qN0⟩, va_recv hK hP (ci := 10) (q0 := 0) rfl rfl, fun U hU hW => ⟨rfl, by rw [hU], by rw [hU]; exact hPc, va_K.moved hW.alike hK, hDc.weaken (fun _ _ _ _ => trivial), va_Nw.warmM hW hN0⟩⟩ rfl rfl hl.1 rfl (lv_room (Nat.le_of_ble_eq_true rfl)) dX10_rankOf_11 ⟨Nat.le_of_ble_eq_true rfl, Nat.le_of_ble_eq_true rfl⟩) hS (fun q _ h => hFc q h) hFc (fun u t H1 locs ht hvm hw hB hz1 hk1 hS => ?_)
      obtain ⟨hP1, hK1, hD1⟩ := hB
      rw [ht] at hP1
      obtain ⟨hP, hD⟩ := va_join (wr := []) (w1 := [(x0, .inr (10, [.ref xTape, .ref xReader, .ref xBag, .ref xBld, .ref xAng, .ref xSum, .ref xPik, .int 0, .ref xHan, .ref xIns, .ref xShr, .ref xSta, .ref xTur])), (xHan, .inr (3, [.int 0, .int 3, .int 1, .ref hH, .ref hR, .ref hT, .ref hM])), (xSum, .inr (8, [.ref sM, .ref sP, .ref sA, .int 0])), (hH, .inl (cI, 7, (.inl (upd (upd (upd (fun _ => 0) (0 : Int32).toNatClampNeg 1) (0 : Int32).toNatClampNeg 2) (0 : Int32).toNatClampNeg 3)))), (hT, .inl (cJ, 7, (.inr (.inl (vp_updL (vp_updL (vp_updL (fun _ => 0) (0 : Int32).toNatClampNeg 1) (0 : Int32).toNatClampNeg 1) (0 : Int32).toNatClampNeg 1))))), (hM, .inl (cJ, 6, (.inr (.inl (vp_updL (fun _ => 0) (0 : Int32).toNatClampNeg 1)))))]) hP hD [0, 1, 2, 3, 4, 5] [] rfl rfl (by decide) (by decide) hk1 hFc hP1 hD1
      generalize H1 = H at hP hS ⊢
      have hP : va_P (dC, dI) vwCl [(x0, .inr (10, [.ref xTape, .ref xReader, .ref xBag, .ref xBld, .ref xAng, .ref xSum, .ref xPik, .int 0, .ref xHan, .ref xIns, .ref xShr, .ref xSta, .ref xTur])), (xHan, .inr (3, [.int 0, .int 3, .int 1, .ref hH, .ref hR, .ref hT, .ref hM])), (xSum, .inr (8, [.ref sM, .ref sP, .ref sA, .int 0])), (hH, .inl (cI, 7, (.inl (upd (upd (upd (fun _ => 0) (0 : Int32).toNatClampNeg 1) (0 : Int32).toNatClampNeg 2) (0 : Int32).toNatClampNeg 3)))), (hT, .inl (cJ, 7, (.inr (.inl (vp_updL (vp_updL (vp_updL (fun _ => 0) (0 : Int32).toNatClampNeg 1) (0 : Int32).toNatClampNeg 1) (0 : Int32).toNatClampNeg 1))))), (hM, .inl (cJ, 6, (.inr (.inl (vp_updL (fun _ => 0) (0 : Int32).toNatClampNeg 1)))))] H := hP
      have hD : va_D A [(x0, .inr (10, [.ref xTape, .ref xReader, .ref xBag, .ref xBld, .ref xAng, .ref xSum, .ref xPik, .int 0, .ref xHan, .ref xIns, .ref xShr, .ref xSta, .ref xTur])), (xHan, .inr (3, [.int 0, .int 3, .int 1, .ref hH, .ref hR, .ref hT, .ref hM])), (xSum, .inr (8, [.ref sM, .ref sP, .ref sA, .int 0])), (hH, .inl (cI, 7, (.inl (upd (upd (upd (fun _ => 0) (0 : Int32).toNatClampNeg 1) (0 : Int32).toNatClampNeg 2) (0 : Int32).toNatClampNeg 3)))), (hT, .inl (cJ, 7, (.inr (.inl (vp_updL (vp_updL (vp_updL (fun _ => 0) (0 : Int32).toNatClampNeg 1) (0 : Int32).toNatClampNeg 1) (0 : Int32).toNatClampNeg 1))))), (hM, .inl (cJ, 6, (.inr (.inl (vp_updL (fun _ => 0) (0 : Int32).toNatClampNeg 1)))))] := hD
      refine lv_aload_n hx hb dX10_rankOf_14 rfl (lv_at hl 0 rfl) ?_
      refine va_get (D := (dC, dI)) (ci := 10) (v := .ref xHan) (C := RX10) (T := TX10) (N := 13) hx hb hts hiX10 hown hK hP 0 rfl rfl 8 (by decide) (hts (.fieldLink RX10 61 "ScissorsTable" "hang" "LScissorsTable$Hang;") (by decide +kernel)) (fun _ h9 => h9) rfl dX10_rankOf_15 ?_
      refine va_get (D := (dC, dI)) (ci := 3) (v := .int 0) (C := RX3) (T := TX3) (N := 7) hx hb hts hiX3 hown hK hP 1 rfl rfl 0 (by decide) (hts (.fieldLink RX10 313 "ScissorsTable$Hang" "rank" "I") (by decide +kernel)) (fun _ h9 => h9) rfl dX10_rankOf_18 ?_
      refine W.widen (k := 0) (n := 0) (Nat.le_of_ble_eq_true rfl) (Nat.le_of_ble_eq_true rfl) ?_
      exact W.iret (v := 0) hx hb hr (fun t ht hW => ⟨⟨0, (), rfl, (by decide), trivial⟩, hS.F ht⟩) hS.2.2 dX10_rankOf_21
    · refine lv_aload_n hx hb dX10_rankOf_9 rfl (lv_at hl 0 rfl) ?_
      refine lv_iload_n hx hb dX10_rankOf_10 rfl (lv_at hl 1 rfl) ?_
      have hPc := hP.sub (ws' := [(x0, .inr (10, [.ref xTape, .ref xReader, .ref xBag, .ref xBld, .ref xAng, .ref xSum, .ref xPik, .int 0, .ref xHan, .ref xIns, .ref xShr, .ref xSta, .ref xTur])), (xSum, .inr (8, [.ref sM, .ref sP, .ref sA, .int 0])), (xHan, .inr (3, [.int 0, .int 0, .int 0, .ref hH, .ref hR, .ref hT, .ref hM])), (hH, .inl (cI, 7, (.inl (fun _ => 0)))), (hT, .inl (cJ, 7, (.inr (.inl (fun _ => 0))))), (hM, .inl (cJ, 6, (.inr (.inl (fun _ => 0)))))]) [0, 1, 2, 3, 4, 5] rfl
      have hDc := hD.sub (ws' := [(x0, .inr (10, [.ref xTape, .ref xReader, .ref xBag, .ref xBld, .ref xAng, .ref xSum, .ref xPik, .int 0, .ref xHan, .ref xIns, .ref xShr, .ref xSta, .ref xTur])), (xSum, .inr (8, [.ref sM, .ref sP, .ref sA, .int 0])), (xHan, .inr (3, [.int 0, .int 0, .int 0, .ref hH, .ref hR, .ref hT, .ref hM])), (hH, .inl (cI, 7, (.inl (fun _ => 0)))), (hT, .inl (cJ, 7, (.inr (.inl (fun _ => 0))))), (hM, .inl (cJ, 6, (.inr (.inl (fun _ => 0)))))]) [0, 1, 2, 3, 4, 5] (by decide) rfl
      have hFc := va_free (wc := [(x0, .inr (10, [.ref xTape, .ref xReader, .ref xBag, .ref xBld, .ref xAng, .ref xSum, .ref xPik, .int 0, .ref xHan, .ref xIns, .ref xShr, .ref xSta, .ref xTur])), (xSum, .inr (8, [.ref sM, .ref sP, .ref sA, .int 0])), (xHan, .inr (3, [.int 0, .int 0, .int 0, .ref hH, .ref hR, .ref hT, .ref hM])), (hH, .inl (cI, 7, (.inl (fun _ => 0)))), (hT, .inl (cJ, 7, (.inr (.inl (fun _ => 0))))), (hM, .inl (cJ, 6, (.inr (.inl (fun _ => 0)))))]) hD hS hA [0, 1, 2, 3, 4, 5] rfl
      refine va_callv (va_runV (As := [.int 15]) (rest := []) ⟨hx, hb, hml, hown, hts⟩ (c_X10_hangSolids_15 l dC dI cB cI cJ H.size x0 xTape xReader xBag xBld xAng xSum xPik xHan xIns xShr xSta xTur sM sP sA hH hR hT hM (fun _ => 0) (fun _ => 0)) (cwV 1 hts gX10_rankOf_X10_hangSolids rfl rfl rfl (by decide +kernel) ⟨Nat.le_of_ble_eq_true rfl, Nat.le_of_ble_eq_true rfl⟩) ⟨fun a U g mk q => by obtain ⟨q0, q1, qP, qK, qD, qN0⟩ := q; exact ⟨q0, q1, qP, va_K.moved (u := U) (U := U.calling g mk a) (Vm.Alike.refl U.vm) qK, qD, va_Nw.same rfl rfl qN0⟩, va_recv hK hP (ci := 10) (q0 := 0) rfl rfl, fun U hU hW => ⟨rfl, by rw [hU], by rw [hU]; exact hPc, va_K.moved hW.alike hK, hDc.weaken (fun _ _ _ _ => trivial), va_Nw.warmM hW hN0⟩⟩ rfl rfl hl.1 rfl (lv_room (Nat.le_of_ble_eq_true rfl)) dX10_rankOf_11 ⟨Nat.le_of_ble_eq_true rfl, Nat.le_of_ble_eq_true rfl⟩) hS (fun q _ h => hFc q h) hFc (fun u t H1 locs ht hvm hw hB hz1 hk1 hS => ?_)
      obtain ⟨hP1, hK1, hD1⟩ := hB
      rw [ht] at hP1
      obtain ⟨hP, hD⟩ := va_join (wr := []) (w1 := [(x0, .inr (10, [.ref xTape, .ref xReader, .ref xBag, .ref xBld, .ref xAng, .ref xSum, .ref xPik, .int 0, .ref xHan, .ref xIns, .ref xShr, .ref xSta, .ref xTur])), (xHan, .inr (3, [.int 0, .int 4, .int 1, .ref hH, .ref hR, .ref hT, .ref hM])), (xSum, .inr (8, [.ref sM, .ref sP, .ref sA, .int 0])), (hH, .inl (cI, 7, (.inl (upd (upd (upd (upd (fun _ => 0) (0 : Int32).toNatClampNeg 0) (0 : Int32).toNatClampNeg 1) (0 : Int32).toNatClampNeg 2) (0 : Int32).toNatClampNeg 3)))), (hT, .inl (cJ, 7, (.inr (.inl (vp_updL (vp_updL (vp_updL (vp_updL (fun _ => 0) (0 : Int32).toNatClampNeg 1) (0 : Int32).toNatClampNeg 1) (0 : Int32).toNatClampNeg 1) (0 : Int32).toNatClampNeg 1))))), (hM, .inl (cJ, 6, (.inr (.inl (vp_updL (fun _ => 0) (0 : Int32).toNatClampNeg 1)))))]) hP hD [0, 1, 2, 3, 4, 5] [] rfl rfl (by decide) (by decide) hk1 hFc hP1 hD1
      generalize H1 = H at hP hS ⊢
      have hP : va_P (dC, dI) vwCl [(x0, .inr (10, [.ref xTape, .ref xReader, .ref xBag, .ref xBld, .ref xAng, .ref xSum, .ref xPik, .int 0, .ref xHan, .ref xIns, .ref xShr, .ref xSta, .ref xTur])), (xHan, .inr (3, [.int 0, .int 4, .int 1, .ref hH, .ref hR, .ref hT, .ref hM])), (xSum, .inr (8, [.ref sM, .ref sP, .ref sA, .int 0])), (hH, .inl (cI, 7, (.inl (upd (upd (upd (upd (fun _ => 0) (0 : Int32).toNatClampNeg 0) (0 : Int32).toNatClampNeg 1) (0 : Int32).toNatClampNeg 2) (0 : Int32).toNatClampNeg 3)))), (hT, .inl (cJ, 7, (.inr (.inl (vp_updL (vp_updL (vp_updL (vp_updL (fun _ => 0) (0 : Int32).toNatClampNeg 1) (0 : Int32).toNatClampNeg 1) (0 : Int32).toNatClampNeg 1) (0 : Int32).toNatClampNeg 1))))), (hM, .inl (cJ, 6, (.inr (.inl (vp_updL (fun _ => 0) (0 : Int32).toNatClampNeg 1)))))] H := hP
      have hD : va_D A [(x0, .inr (10, [.ref xTape, .ref xReader, .ref xBag, .ref xBld, .ref xAng, .ref xSum, .ref xPik, .int 0, .ref xHan, .ref xIns, .ref xShr, .ref xSta, .ref xTur])), (xHan, .inr (3, [.int 0, .int 4, .int 1, .ref hH, .ref hR, .ref hT, .ref hM])), (xSum, .inr (8, [.ref sM, .ref sP, .ref sA, .int 0])), (hH, .inl (cI, 7, (.inl (upd (upd (upd (upd (fun _ => 0) (0 : Int32).toNatClampNeg 0) (0 : Int32).toNatClampNeg 1) (0 : Int32).toNatClampNeg 2) (0 : Int32).toNatClampNeg 3)))), (hT, .inl (cJ, 7, (.inr (.inl (vp_updL (vp_updL (vp_updL (vp_updL (fun _ => 0) (0 : Int32).toNatClampNeg 1) (0 : Int32).toNatClampNeg 1) (0 : Int32).toNatClampNeg 1) (0 : Int32).toNatClampNeg 1))))), (hM, .inl (cJ, 6, (.inr (.inl (vp_updL (fun _ => 0) (0 : Int32).toNatClampNeg 1)))))] := hD
      refine lv_aload_n hx hb dX10_rankOf_14 rfl (lv_at hl 0 rfl) ?_
      refine va_get (D := (dC, dI)) (ci := 10) (v := .ref xHan) (C := RX10) (T := TX10) (N := 13) hx hb hts hiX10 hown hK hP 0 rfl rfl 8 (by decide) (hts (.fieldLink RX10 61 "ScissorsTable" "hang" "LScissorsTable$Hang;") (by decide +kernel)) (fun _ h9 => h9) rfl dX10_rankOf_15 ?_
      refine va_get (D := (dC, dI)) (ci := 3) (v := .int 0) (C := RX3) (T := TX3) (N := 7) hx hb hts hiX3 hown hK hP 1 rfl rfl 0 (by decide) (hts (.fieldLink RX10 313 "ScissorsTable$Hang" "rank" "I") (by decide +kernel)) (fun _ h9 => h9) rfl dX10_rankOf_18 ?_
      refine W.widen (k := 0) (n := 0) (Nat.le_of_ble_eq_true rfl) (Nat.le_of_ble_eq_true rfl) ?_
      exact W.iret (v := 0) hx hb hr (fun t ht hW => ⟨⟨0, (), rfl, (by decide), trivial⟩, hS.F ht⟩) hS.2.2 dX10_rankOf_21
