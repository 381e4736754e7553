theorem dX0_init_0 : decode cX0_init 0 = .ok (.aload_n 0, 1) := by decide +kernel
theorem dX0_init_1 : decode cX0_init 1 = .ok (.invokespecial 3, 3) := by decide +kernel
theorem dX0_init_4 : decode cX0_init 4 = .ok (.aload_n 0, 1) := by decide +kernel
theorem dX0_init_5 : decode cX0_init 5 = .ok (.bipush 12, 2) := by decide +kernel
theorem dX0_init_7 : decode cX0_init 7 = .ok (.newarray .int, 2) := by decide +kernel
theorem dX0_init_9 : decode cX0_init 9 = .ok (.putfield 11, 3) := by decide +kernel
theorem dX0_init_12 : decode cX0_init 12 = .ok (.aload_n 0, 1) := by decide +kernel
theorem dX0_init_13 : decode cX0_init 13 = .ok (.bipush 12, 2) := by decide +kernel
theorem dX0_init_15 : decode cX0_init 15 = .ok (.newarray .int, 2) := by decide +kernel
theorem dX0_init_17 : decode cX0_init 17 = .ok (.putfield 15, 3) := by decide +kernel
theorem dX0_init_20 : decode cX0_init 20 = .ok (.aload_n 0, 1) := by decide +kernel
theorem dX0_init_21 : decode cX0_init 21 = .ok (.iconst 3, 1) := by decide +kernel
theorem dX0_init_22 : decode cX0_init 22 = .ok (.newarray .int, 2) := by decide +kernel
theorem dX0_init_24 : decode cX0_init 24 = .ok (.putfield 18, 3) := by decide +kernel
theorem dX0_init_27 : decode cX0_init 27 = .ok (.aload_n 0, 1) := by decide +kernel
theorem dX0_init_28 : decode cX0_init 28 = .ok (.iconst 3, 1) := by decide +kernel
theorem dX0_init_29 : decode cX0_init 29 = .ok (.newarray .int, 2) := by decide +kernel
theorem dX0_init_31 : decode cX0_init 31 = .ok (.putfield 21, 3) := by decide +kernel
theorem dX0_init_34 : decode cX0_init 34 = .ok (.aload_n 0, 1) := by decide +kernel
theorem dX0_init_35 : decode cX0_init 35 = .ok (.iconst 3, 1) := by decide +kernel
theorem dX0_init_36 : decode cX0_init 36 = .ok (.newarray .int, 2) := by decide +kernel
theorem dX0_init_38 : decode cX0_init 38 = .ok (.putfield 24, 3) := by decide +kernel
theorem dX0_init_41 : decode cX0_init 41 = .ok (.return_, 1) := by decide +kernel
theorem dX1_init_0 : decode cX1_init 0 = .ok (.aload_n 0, 1) := by decide +kernel
theorem dX1_init_1 : decode cX1_init 1 = .ok (.invokespecial 3, 3) := by decide +kernel
theorem dX1_init_4 : decode cX1_init 4 = .ok (.aload_n 0, 1) := by decide +kernel
theorem dX1_init_5 : decode cX1_init 5 = .ok (.sipush 576, 3) := by decide +kernel
theorem dX1_init_8 : decode cX1_init 8 = .ok (.newarray .int, 2) := by decide +kernel
theorem dX1_init_10 : decode cX1_init 10 = .ok (.putfield 11, 3) := by decide +kernel
theorem dX1_init_13 : decode cX1_init 13 = .ok (.aload_n 0, 1) := by decide +kernel
theorem dX1_init_14 : decode cX1_init 14 = .ok (.bipush 48, 2) := by decide +kernel
theorem dX1_init_16 : decode cX1_init 16 = .ok (.newarray .int, 2) := by decide +kernel
theorem dX1_init_18 : decode cX1_init 18 = .ok (.putfield 15, 3) := by decide +kernel
theorem dX1_init_21 : decode cX1_init 21 = .ok (.aload_n 0, 1) := by decide +kernel
theorem dX1_init_22 : decode cX1_init 22 = .ok (.bipush 48, 2) := by decide +kernel
theorem dX1_init_24 : decode cX1_init 24 = .ok (.newarray .int, 2) := by decide +kernel
theorem dX1_init_26 : decode cX1_init 26 = .ok (.putfield 18, 3) := by decide +kernel
theorem dX1_init_29 : decode cX1_init 29 = .ok (.aload_n 0, 1) := by decide +kernel
theorem dX1_init_30 : decode cX1_init 30 = .ok (.bipush 12, 2) := by decide +kernel
theorem dX1_init_32 : decode cX1_init 32 = .ok (.newarray .int, 2) := by decide +kernel
theorem dX1_init_34 : decode cX1_init 34 = .ok (.putfield 21, 3) := by decide +kernel
theorem dX1_init_37 : decode cX1_init 37 = .ok (.aload_n 0, 1) := by decide +kernel
theorem dX1_init_38 : decode cX1_init 38 = .ok (.bipush 12, 2) := by decide +kernel
theorem dX1_init_40 : decode cX1_init 40 = .ok (.newarray .int, 2) := by decide +kernel
theorem dX1_init_42 : decode cX1_init 42 = .ok (.putfield 24, 3) := by decide +kernel
theorem dX1_init_45 : decode cX1_init 45 = .ok (.return_, 1) := by decide +kernel
theorem dX2_init_0 : decode cX2_init 0 = .ok (.aload_n 0, 1) := by decide +kernel
theorem dX2_init_1 : decode cX2_init 1 = .ok (.invokespecial 3, 3) := by decide +kernel
theorem dX2_init_4 : decode cX2_init 4 = .ok (.aload_n 0, 1) := by decide +kernel
theorem dX2_init_5 : decode cX2_init 5 = .ok (.bipush 12, 2) := by decide +kernel
theorem dX2_init_7 : decode cX2_init 7 = .ok (.newarray .int, 2) := by decide +kernel
theorem dX2_init_9 : decode cX2_init 9 = .ok (.putfield 11, 3) := by decide +kernel
theorem dX2_init_12 : decode cX2_init 12 = .ok (.aload_n 0, 1) := by decide +kernel
theorem dX2_init_13 : decode cX2_init 13 = .ok (.aload_n 1, 1) := by decide +kernel
theorem dX2_init_14 : decode cX2_init 14 = .ok (.putfield 17, 3) := by decide +kernel
theorem dX2_init_17 : decode cX2_init 17 = .ok (.return_, 1) := by decide +kernel
theorem dX3_init_0 : decode cX3_init 0 = .ok (.aload_n 0, 1) := by decide +kernel
theorem dX3_init_1 : decode cX3_init 1 = .ok (.invokespecial 3, 3) := by decide +kernel
theorem dX3_init_4 : decode cX3_init 4 = .ok (.aload_n 0, 1) := by decide +kernel
theorem dX3_init_5 : decode cX3_init 5 = .ok (.bipush 7, 2) := by decide +kernel
theorem dX3_init_7 : decode cX3_init 7 = .ok (.newarray .int, 2) := by decide +kernel
theorem dX3_init_9 : decode cX3_init 9 = .ok (.putfield 9, 3) := by decide +kernel
theorem dX3_init_12 : decode cX3_init 12 = .ok (.aload_n 0, 1) := by decide +kernel
theorem dX3_init_13 : decode cX3_init 13 = .ok (.bipush 7, 2) := by decide +kernel
theorem dX3_init_15 : decode cX3_init 15 = .ok (.newarray .int, 2) := by decide +kernel
theorem dX3_init_17 : decode cX3_init 17 = .ok (.putfield 15, 3) := by decide +kernel
theorem dX3_init_20 : decode cX3_init 20 = .ok (.aload_n 0, 1) := by decide +kernel
theorem dX3_init_21 : decode cX3_init 21 = .ok (.bipush 7, 2) := by decide +kernel
theorem dX3_init_23 : decode cX3_init 23 = .ok (.newarray .long, 2) := by decide +kernel
theorem dX3_init_25 : decode cX3_init 25 = .ok (.putfield 18, 3) := by decide +kernel
theorem dX3_init_28 : decode cX3_init 28 = .ok (.aload_n 0, 1) := by decide +kernel
theorem dX3_init_29 : decode cX3_init 29 = .ok (.bipush 6, 2) := by decide +kernel
theorem dX3_init_31 : decode cX3_init 31 = .ok (.newarray .long, 2) := by decide +kernel
theorem dX3_init_33 : decode cX3_init 33 = .ok (.putfield 22, 3) := by decide +kernel
theorem dX3_init_36 : decode cX3_init 36 = .ok (.return_, 1) := by decide +kernel
theorem dX4_init_0 : decode cX4_init 0 = .ok (.aload_n 0, 1) := by decide +kernel
theorem dX4_init_1 : decode cX4_init 1 = .ok (.invokespecial 3, 3) := by decide +kernel
theorem dX4_init_4 : decode cX4_init 4 = .ok (.aload_n 0, 1) := by decide +kernel
theorem dX4_init_5 : decode cX4_init 5 = .ok (.bipush 16, 2) := by decide +kernel
theorem dX4_init_7 : decode cX4_init 7 = .ok (.newarray .int, 2) := by decide +kernel
theorem dX4_init_9 : decode cX4_init 9 = .ok (.putfield 9, 3) := by decide +kernel
theorem dX4_init_12 : decode cX4_init 12 = .ok (.aload_n 0, 1) := by decide +kernel
theorem dX4_init_13 : decode cX4_init 13 = .ok (.iconst 3, 1) := by decide +kernel
theorem dX4_init_14 : decode cX4_init 14 = .ok (.newarray .int, 2) := by decide +kernel
theorem dX4_init_16 : decode cX4_init 16 = .ok (.putfield 15, 3) := by decide +kernel
theorem dX4_init_19 : decode cX4_init 19 = .ok (.aload_n 0, 1) := by decide +kernel
theorem dX4_init_20 : decode cX4_init 20 = .ok (.iconst 3, 1) := by decide +kernel
theorem dX4_init_21 : decode cX4_init 21 = .ok (.newarray .int, 2) := by decide +kernel
theorem dX4_init_23 : decode cX4_init 23 = .ok (.putfield 18, 3) := by decide +kernel
theorem dX4_init_26 : decode cX4_init 26 = .ok (.aload_n 0, 1) := by decide +kernel
theorem dX4_init_27 : decode cX4_init 27 = .ok (.iconst 4, 1) := by decide +kernel
theorem dX4_init_28 : decode cX4_init 28 = .ok (.newarray .int, 2) := by decide +kernel
theorem dX4_init_30 : decode cX4_init 30 = .ok (.putfield 21, 3) := by decide +kernel
theorem dX4_init_33 : decode cX4_init 33 = .ok (.return_, 1) := by decide +kernel
theorem dX5_init_0 : decode cX5_init 0 = .ok (.aload_n 0, 1) := by decide +kernel
theorem dX5_init_1 : decode cX5_init 1 = .ok (.invokespecial 3, 3) := by decide +kernel
theorem dX5_init_4 : decode cX5_init 4 = .ok (.aload_n 0, 1) := by decide +kernel
theorem dX5_init_5 : decode cX5_init 5 = .ok (.bipush 13, 2) := by decide +kernel
theorem dX5_init_7 : decode cX5_init 7 = .ok (.newarray .int, 2) := by decide +kernel
theorem dX5_init_9 : decode cX5_init 9 = .ok (.putfield 11, 3) := by decide +kernel
theorem dX5_init_12 : decode cX5_init 12 = .ok (.aload_n 0, 1) := by decide +kernel
theorem dX5_init_13 : decode cX5_init 13 = .ok (.aload_n 1, 1) := by decide +kernel
theorem dX5_init_14 : decode cX5_init 14 = .ok (.putfield 15, 3) := by decide +kernel
theorem dX5_init_17 : decode cX5_init 17 = .ok (.return_, 1) := by decide +kernel
theorem dX6_init_0 : decode cX6_init 0 = .ok (.aload_n 0, 1) := by decide +kernel
theorem dX6_init_1 : decode cX6_init 1 = .ok (.invokespecial 5, 3) := by decide +kernel
theorem dX6_init_4 : decode cX6_init 4 = .ok (.aload_n 0, 1) := by decide +kernel
theorem dX6_init_5 : decode cX6_init 5 = .ok (.sipush 528, 3) := by decide +kernel
theorem dX6_init_8 : decode cX6_init 8 = .ok (.newarray .int, 2) := by decide +kernel
theorem dX6_init_10 : decode cX6_init 10 = .ok (.putfield 13, 3) := by decide +kernel
theorem dX6_init_13 : decode cX6_init 13 = .ok (.aload_n 0, 1) := by decide +kernel
theorem dX6_init_14 : decode cX6_init 14 = .ok (.bipush 12, 2) := by decide +kernel
theorem dX6_init_16 : decode cX6_init 16 = .ok (.newarray .int, 2) := by decide +kernel
theorem dX6_init_18 : decode cX6_init 18 = .ok (.putfield 17, 3) := by decide +kernel
theorem dX6_init_21 : decode cX6_init 21 = .ok (.aload_n 0, 1) := by decide +kernel
theorem dX6_init_22 : decode cX6_init 22 = .ok (.aload_n 1, 1) := by decide +kernel
theorem dX6_init_23 : decode cX6_init 23 = .ok (.putfield 20, 3) := by decide +kernel
theorem dX6_init_26 : decode cX6_init 26 = .ok (.return_, 1) := by decide +kernel
theorem dX7_init_0 : decode cX7_init 0 = .ok (.aload_n 0, 1) := by decide +kernel
theorem dX7_init_1 : decode cX7_init 1 = .ok (.invokespecial 5, 3) := by decide +kernel
theorem dX7_init_4 : decode cX7_init 4 = .ok (.aload_n 0, 1) := by decide +kernel
theorem dX7_init_5 : decode cX7_init 5 = .ok (.iconst (-1), 1) := by decide +kernel
theorem dX7_init_6 : decode cX7_init 6 = .ok (.putfield 11, 3) := by decide +kernel
theorem dX7_init_9 : decode cX7_init 9 = .ok (.aload_n 0, 1) := by decide +kernel
theorem dX7_init_10 : decode cX7_init 10 = .ok (.sipush 576, 3) := by decide +kernel
theorem dX7_init_13 : decode cX7_init 13 = .ok (.newarray .int, 2) := by decide +kernel
theorem dX7_init_15 : decode cX7_init 15 = .ok (.putfield 15, 3) := by decide +kernel
theorem dX7_init_18 : decode cX7_init 18 = .ok (.aload_n 0, 1) := by decide +kernel
theorem dX7_init_19 : decode cX7_init 19 = .ok (.iconst 3, 1) := by decide +kernel
theorem dX7_init_20 : decode cX7_init 20 = .ok (.newarray .int, 2) := by decide +kernel
theorem dX7_init_22 : decode cX7_init 22 = .ok (.putfield 19, 3) := by decide +kernel
theorem dX7_init_25 : decode cX7_init 25 = .ok (.aload_n 0, 1) := by decide +kernel
theorem dX7_init_26 : decode cX7_init 26 = .ok (.iconst 3, 1) := by decide +kernel
theorem dX7_init_27 : decode cX7_init 27 = .ok (.newarray .int, 2) := by decide +kernel
theorem dX7_init_29 : decode cX7_init 29 = .ok (.putfield 22, 3) := by decide +kernel
theorem dX7_init_32 : decode cX7_init 32 = .ok (.aload_n 0, 1) := by decide +kernel
theorem dX7_init_33 : decode cX7_init 33 = .ok (.iconst 3, 1) := by decide +kernel
theorem dX7_init_34 : decode cX7_init 34 = .ok (.newarray .int, 2) := by decide +kernel
theorem dX7_init_36 : decode cX7_init 36 = .ok (.putfield 25, 3) := by decide +kernel
theorem dX7_init_39 : decode cX7_init 39 = .ok (.aload_n 0, 1) := by decide +kernel
theorem dX7_init_40 : decode cX7_init 40 = .ok (.sipush 576, 3) := by decide +kernel
theorem dX7_init_43 : decode cX7_init 43 = .ok (.newarray .int, 2) := by decide +kernel
theorem dX7_init_45 : decode cX7_init 45 = .ok (.putfield 28, 3) := by decide +kernel
theorem dX7_init_48 : decode cX7_init 48 = .ok (.aload_n 0, 1) := by decide +kernel
theorem dX7_init_49 : decode cX7_init 49 = .ok (.sipush 576, 3) := by decide +kernel
theorem dX7_init_52 : decode cX7_init 52 = .ok (.newarray .int, 2) := by decide +kernel
theorem dX7_init_54 : decode cX7_init 54 = .ok (.putfield 31, 3) := by decide +kernel
theorem dX7_init_57 : decode cX7_init 57 = .ok (.aload_n 0, 1) := by decide +kernel
theorem dX7_init_58 : decode cX7_init 58 = .ok (.sipush 576, 3) := by decide +kernel
theorem dX7_init_61 : decode cX7_init 61 = .ok (.newarray .int, 2) := by decide +kernel
theorem dX7_init_63 : decode cX7_init 63 = .ok (.putfield 34, 3) := by decide +kernel
theorem dX7_init_66 : decode cX7_init 66 = .ok (.aload_n 0, 1) := by decide +kernel
theorem dX7_init_67 : decode cX7_init 67 = .ok (.sipush 1623, 3) := by decide +kernel
theorem dX7_init_70 : decode cX7_init 70 = .ok (.newarray .long, 2) := by decide +kernel
theorem dX7_init_72 : decode cX7_init 72 = .ok (.putfield 37, 3) := by decide +kernel
theorem dX7_init_75 : decode cX7_init 75 = .ok (.return_, 1) := by decide +kernel
theorem dX8_init_0 : decode cX8_init 0 = .ok (.aload_n 0, 1) := by decide +kernel
theorem dX8_init_1 : decode cX8_init 1 = .ok (.invokespecial 3, 3) := by decide +kernel
theorem dX8_init_4 : decode cX8_init 4 = .ok (.aload_n 0, 1) := by decide +kernel
theorem dX8_init_5 : decode cX8_init 5 = .ok (.bipush 16, 2) := by decide +kernel
theorem dX8_init_7 : decode cX8_init 7 = .ok (.newarray .int, 2) := by decide +kernel
theorem dX8_init_9 : decode cX8_init 9 = .ok (.putfield 11, 3) := by decide +kernel
theorem dX8_init_12 : decode cX8_init 12 = .ok (.aload_n 0, 1) := by decide +kernel
theorem dX8_init_13 : decode cX8_init 13 = .ok (.bipush 16, 2) := by decide +kernel
theorem dX8_init_15 : decode cX8_init 15 = .ok (.newarray .int, 2) := by decide +kernel
theorem dX8_init_17 : decode cX8_init 17 = .ok (.putfield 15, 3) := by decide +kernel
theorem dX8_init_20 : decode cX8_init 20 = .ok (.aload_n 0, 1) := by decide +kernel
theorem dX8_init_21 : decode cX8_init 21 = .ok (.bipush 96, 2) := by decide +kernel
theorem dX8_init_23 : decode cX8_init 23 = .ok (.newarray .int, 2) := by decide +kernel
theorem dX8_init_25 : decode cX8_init 25 = .ok (.putfield 18, 3) := by decide +kernel
theorem dX8_init_28 : decode cX8_init 28 = .ok (.return_, 1) := by decide +kernel
theorem dX9_init_0 : decode cX9_init 0 = .ok (.aload_n 0, 1) := by decide +kernel
theorem dX9_init_1 : decode cX9_init 1 = .ok (.invokespecial 1, 3) := by decide +kernel
theorem dX9_init_4 : decode cX9_init 4 = .ok (.aload_n 0, 1) := by decide +kernel
theorem dX9_init_5 : decode cX9_init 5 = .ok (.sipush 600, 3) := by decide +kernel
theorem dX9_init_8 : decode cX9_init 8 = .ok (.newarray .byte, 2) := by decide +kernel
theorem dX9_init_10 : decode cX9_init 10 = .ok (.putfield 9, 3) := by decide +kernel
theorem dX9_init_13 : decode cX9_init 13 = .ok (.return_, 1) := by decide +kernel
set_option maxHeartbeats 4000000 in
set_option maxRecDepth 100000 in
theorem c_X9_init (l : Launch) (dC : Nat → ClassId) (dI : Nat → Nat → Nat) (cB cI cJ : ClassId) (sz : Nat) (h0 : Nat) : Met l yX9_init wsX9_init ({ frames := 1, cells := 1, slots := 600, locals := 24 }) (va_Pc [.ref h0] (fun U => U.heap.size = sz ∧ va_P (dC, dI) vwCl [(h0, .inr (9, [.null, .int 0]))] U.heap ∧ va_K (dC, dI) vwCl [(cB, .byte), (cI, .int), (cJ, .long)] U ∧ va_D (fun _ => True) [(h0, .inr (9, [.null, .int 0]))])) (va_Qv (fun _ : Unit => True) (fun _ t => ∃ q_1 : Nat, va_P (dC, dI) vwCl [(h0, .inr (9, [.ref q_1, .int 0])), (q_1, .inl (cB, 600, (.inl (fun _ => 0))))] t.heap ∧ va_K (dC, dI) vwCl [(cB, .byte), (cI, .int), (cJ, .long)] t ∧ va_D (va_A [(h0, .inr (9, [.null, .int 0]))] sz) [(h0, .inr (9, [.ref q_1, .int 0])), (q_1, .inl (cB, 600, (.inl (fun _ => 0))))]) (va_A [(h0, .inr (9, [.null, .int 0]))] sz)) 1 600 (va_A [(h0, .inr (9, [.null, .int 0]))] sz) := by
  refine Met.ofW (cc := cX9_init) (maxL := 1) (ret := none) (by decide) rfl ?_
  intro p e s m args below meth c s₁ B hml hv
  obtain ⟨rfl, hsz, hP, hK, hD0⟩ := hv
  have hx := B.exec
  have hb := B.bytes
  have hr := B.returns
  have hts := atoms_spec (ws := wsX9_init) B.pre
  have hown : s.vm.findClass RX9 = some m.cls := findClass_of_methodNamed B.named
  have hlocks := B.notSynchronized
  have hin : meth.name = "<init>" := (name_of_methodNamed B.named B.method).1
  have hiX9 : ∀ w ∈ u_ws RX9 TX9 2, w ∈ wsX9_init := by decide +kernel
  subst hsz
  have hD := hD0.self (sz := s.heap.size)
  generalize hAe : va_A [(h0, .inr (9, [.null, .int 0]))] s.heap.size = A at hD ⊢
  have hA : ∀ q : Nat, s.heap.size ≤ q → A q := fun q h => by rw [← hAe]; exact Or.inr h
  have hS : va_S A s.heap s.heap [] := va_S.rf
  have hP : va_P (dC, dI) vwCl [(h0, .inr (9, [.null, .int 0]))] s.heap := hP
  have hl := lv_entry ([.ref h0]) (n := 1) (Nat.le_of_ble_eq_true rfl)
  rw [lg_entry_eq]
  generalize (lg_sl ([.ref h0]) ++ List.replicate (1 - (lg_sl ([.ref h0])).length) Slot.unset).toArray = ls at hl ⊢
  have hl : lv_has ls 1 [(0, .ref h0)] := hl
  refine lv_aload_n hx hb dX9_init_0 rfl (lv_at hl 0 rfl) ?_
  refine W.objInit hx hb hown (hts (.methodLink RX9 1 objectInit) (by decide +kernel)) (hts (.instanceMethod objectInit) (by decide +kernel)) (hts _ (List.mem_of_getElem? (i := 3) rfl)) rfl (by rw [hml]; exact hl.1) rfl dX9_init_1 (Nat.le_of_ble_eq_true rfl) (Nat.le_of_ble_eq_true rfl) ?_
  refine W.eq (g2 := F0 m 4 ls []) rfl ?_
  refine lv_aload_n hx hb dX9_init_4 rfl (lv_at hl 0 rfl) ?_
  refine lv_sipush (v := 600) hx hb dX9_init_5 (by decide) ?_
  refine va_newa (atype := .byte) (ty := .byte) (N' := 600) (a0 := (600, (.inl (fun _ => 0)))) hx hb (hts (.arrayClass .byte) (by decide +kernel)) rfl hK hP hD hS hA (fun _ => rfl) (by decide) (by decide) (Nat.le_of_ble_eq_true rfl) (Nat.le_of_ble_eq_true rfl) (Nat.le_of_ble_eq_true rfl) dX9_init_8 (fun q_1 cA H hKn hP hD hS => ?_)
  obtain rfl : cB = cA := nk_same hK hKn 0 rfl (fun h => h) (fun h => h)
  have hP : va_P (dC, dI) vwCl [(h0, .inr (9, [.null, .int 0])), (q_1, .inl (cB, 600, (.inl (fun _ => 0))))] H := hP
  have hD : va_D A [(h0, .inr (9, [.null, .int 0])), (q_1, .inl (cB, 600, (.inl (fun _ => 0))))] := hD
  refine W.widen (k := 1) (n := 600) (Nat.le_of_ble_eq_true rfl) (Nat.le_of_ble_eq_true rfl) ?_
  refine va_putF (D := (dC, dI)) (ci := 9) (v := .ref q_1) (ty := (.array .byte)) (C := RX9) (T := TX9) (N := 2) hx hb hts hiX9 tyX9 tyX9_ok nmX9 hown hK hP hD hS 0 rfl rfl 0 (by decide) (hts (.fieldLink RX9 9 "ScissorsTable$Tape" "bytes" "[B") (by decide +kernel)) (fun _ h9 => h9) rfl hin rfl (by decide +kernel) rfl rfl (Nat.le_of_ble_eq_true rfl) dX9_init_10 (fun H locs hP hD hS => ?_)
  have hP : va_P (dC, dI) vwCl [(h0, .inr (9, [.ref q_1, .int 0])), (q_1, .inl (cB, 600, (.inl (fun _ => 0))))] H := hP
  have hD : va_D A [(h0, .inr (9, [.ref q_1, .int 0])), (q_1, .inl (cB, 600, (.inl (fun _ => 0))))] := hD
  have hP9 := hP.sub (ws' := [(h0, .inr (9, [.ref q_1, .int 0])), (q_1, .inl (cB, 600, (.inl (fun _ => 0))))]) [0, 1] rfl
  have hD9 := hD.sub (ws' := [(h0, .inr (9, [.ref q_1, .int 0])), (q_1, .inl (cB, 600, (.inl (fun _ => 0))))]) [0, 1] (by decide) rfl
  refine W.widen (k := 1) (n := 600) (Nat.le_of_ble_eq_true rfl) (Nat.le_of_ble_eq_true rfl) ?_
  exact W.vret hx hb hr (fun t ht hW => ⟨⟨(), rfl, trivial, q_1, by rw [ht]; exact hP9, va_K.moved hW.alike hK, hD9⟩, hS.F ht⟩) hS.2.2 dX9_init_13
set_option maxHeartbeats 4000000 in
set_option maxRecDepth 100000 in
theorem c_X1_init (l : Launch) (dC : Nat → ClassId) (dI : Nat → Nat → Nat) (cB cI cJ : ClassId) (sz : Nat) (h0 : Nat) : Met l yX1_init wsX1_init ({ frames := 1, cells := 5, slots := 696, locals := 24 }) (va_Pc [.ref h0] (fun U => U.heap.size = sz ∧ va_P (dC, dI) vwCl [(h0, .inr (1, [.null, .null, .null, .null, .null, .int 0]))] U.heap ∧ va_K (dC, dI) vwCl [(cB, .byte), (cI, .int), (cJ, .long)] U ∧ va_D (fun _ => True) [(h0, .inr (1, [.null, .null, .null, .null, .null, .int 0]))])) (va_Qv (fun _ : Unit => True) (fun _ t => ∃ q_1 : Nat, ∃ q_2 : Nat, ∃ q_3 : Nat, ∃ q_4 : Nat, ∃ q_5 : Nat, va_P (dC, dI) vwCl [(h0, .inr (1, [.ref q_1, .ref q_2, .ref q_3, .ref q_4, .ref q_5, .int 0])), (q_1, .inl (cI, 576, (.inl (fun _ => 0)))), (q_2, .inl (cI, 48, (.inl (fun _ => 0)))), (q_3, .inl (cI, 48, (.inl (fun _ => 0)))), (q_4, .inl (cI, 12, (.inl (fun _ => 0)))), (q_5, .inl (cI, 12, (.inl (fun _ => 0))))] t.heap ∧ va_K (dC, dI) vwCl [(cB, .byte), (cI, .int), (cJ, .long)] t ∧ va_D (va_A [(h0, .inr (1, [.null, .null, .null, .null, .null, .int 0]))] sz) [(h0, .inr (1, [.ref q_1, .ref q_2, .ref q_3, .ref q_4, .ref q_5, .int 0])), (q_1, .inl (cI, 576, (.inl (fun _ => 0)))), (q_2, .inl (cI, 48, (.inl (fun _ => 0)))), (q_3, .inl (cI, 48, (.inl (fun _ => 0)))), (q_4, .inl (cI, 12, (.inl (fun _ => 0)))), (q_5, .inl (cI, 12, (.inl (fun _ => 0))))]) (va_A [(h0, .inr (1, [.null, .null, .null, .null, .null, .int 0]))] sz)) 5 696 (va_A [(h0, .inr (1, [.null, .null, .null, .null, .null, .int 0]))] sz) := by
  refine Met.ofW (cc := cX1_init) (maxL := 1) (ret := none) (by decide) rfl ?_
  intro p e s m args below meth c s₁ B hml hv
  obtain ⟨rfl, hsz, hP, hK, hD0⟩ := hv
  have hx := B.exec
  have hb := B.bytes
  have hr := B.returns
  have hts := atoms_spec (ws := wsX1_init) B.pre
  have hown : s.vm.findClass RX1 = some m.cls := findClass_of_methodNamed B.named
  have hlocks := B.notSynchronized
  have hin : meth.name = "<init>" := (name_of_methodNamed B.named B.method).1
  have hiX1 : ∀ w ∈ u_ws RX1 TX1 6, w ∈ wsX1_init := by decide +kernel
  subst hsz
  have hD := hD0.self (sz := s.heap.size)
  generalize hAe : va_A [(h0, .inr (1, [.null, .null, .null, .null, .null, .int 0]))] s.heap.size = A at hD ⊢
  have hA : ∀ q : Nat, s.heap.size ≤ q → A q := fun q h => by rw [← hAe]; exact Or.inr h
  have hS : va_S A s.heap s.heap [] := va_S.rf
  have hP : va_P (dC, dI) vwCl [(h0, .inr (1, [.null, .null, .null, .null, .null, .int 0]))] s.heap := hP
  have hl := lv_entry ([.ref h0]) (n := 1) (Nat.le_of_ble_eq_true rfl)
  rw [lg_entry_eq]
  generalize (lg_sl ([.ref h0]) ++ List.replicate (1 - (lg_sl ([.ref h0])).length) Slot.unset).toArray = ls at hl ⊢
  have hl : lv_has ls 1 [(0, .ref h0)] := hl
  refine lv_aload_n hx hb dX1_init_0 rfl (lv_at hl 0 rfl) ?_
  refine W.objInit hx hb hown (hts (.methodLink RX1 3 objectInit) (by decide +kernel)) (hts (.instanceMethod objectInit) (by decide +kernel)) (hts _ (List.mem_of_getElem? (i := 3) rfl)) rfl (by rw [hml]; exact hl.1) rfl dX1_init_1 (Nat.le_of_ble_eq_true rfl) (Nat.le_of_ble_eq_true rfl) ?_
  refine W.eq (g2 := F0 m 4 ls []) rfl ?_
  refine lv_aload_n hx hb dX1_init_4 rfl (lv_at hl 0 rfl) ?_
  refine lv_sipush (v := 576) hx hb dX1_init_5 (by decide) ?_
  refine va_newa (atype := .int) (ty := .int) (N' := 576) (a0 := (576, (.inl (fun _ => 0)))) hx hb (hts (.arrayClass .int) (by decide +kernel)) rfl hK hP hD hS hA (fun _ => rfl) (by decide) (by decide) (Nat.le_of_ble_eq_true rfl) (Nat.le_of_ble_eq_true rfl) (Nat.le_of_ble_eq_true rfl) dX1_init_8 (fun q_1 cA H hKn hP hD hS => ?_)
  obtain rfl : cI = cA := nk_same hK hKn 1 rfl (fun h => h) (fun h => h)
  have hP : va_P (dC, dI) vwCl [(h0, .inr (1, [.null, .null, .null, .null, .null, .int 0])), (q_1, .inl (cI, 576, (.inl (fun _ => 0))))] H := hP
  have hD : va_D A [(h0, .inr (1, [.null, .null, .null, .null, .null, .int 0])), (q_1, .inl (cI, 576, (.inl (fun _ => 0))))] := hD
  refine W.widen (k := 1) (n := 576) (Nat.le_of_ble_eq_true rfl) (Nat.le_of_ble_eq_true rfl) ?_
  refine va_putF (D := (dC, dI)) (ci := 1) (v := .ref q_1) (ty := (.array .int)) (C := RX1) (T := TX1) (N := 6) hx hb hts hiX1 tyX1 tyX1_ok nmX1 hown hK hP hD hS 0 rfl rfl 0 (by decide) (hts (.fieldLink RX1 11 "ScissorsTable$Bag" "corners" "[I") (by decide +kernel)) (fun _ h9 => h9) rfl hin rfl (by decide +kernel) rfl rfl (Nat.le_of_ble_eq_true rfl) dX1_init_10 (fun H locs hP hD hS => ?_)
  have hP : va_P (dC, dI) vwCl [(h0, .inr (1, [.ref q_1, .null, .null, .null, .null, .int 0])), (q_1, .inl (cI, 576, (.inl (fun _ => 0))))] H := hP
  have hD : va_D A [(h0, .inr (1, [.ref q_1, .null, .null, .null, .null, .int 0])), (q_1, .inl (cI, 576, (.inl (fun _ => 0))))] := hD
  refine lv_aload_n hx hb dX1_init_13 rfl (lv_at hl 0 rfl) ?_
  refine lv_bipush (v := 48) hx hb dX1_init_14 (by decide) ?_
  refine va_newa (atype := .int) (ty := .int) (N' := 48) (a0 := (48, (.inl (fun _ => 0)))) hx hb (hts (.arrayClass .int) (by decide +kernel)) rfl hK hP hD hS hA (fun _ => rfl) (by decide) (by decide) (Nat.le_of_ble_eq_true rfl) (Nat.le_of_ble_eq_true rfl) (Nat.le_of_ble_eq_true rfl) dX1_init_16 (fun q_2 cA H hKn hP hD hS => ?_)
  obtain rfl : cI = cA := nk_same hK hKn 1 rfl (fun h => h) (fun h => h)
  have hP : va_P (dC, dI) vwCl [(h0, .inr (1, [.ref q_1, .null, .null, .null, .null, .int 0])), (q_1, .inl (cI, 576, (.inl (fun _ => 0)))), (q_2, .inl (cI, 48, (.inl (fun _ => 0))))] H := hP
  have hD : va_D A [(h0, .inr (1, [.ref q_1, .null, .null, .null, .null, .int 0])), (q_1, .inl (cI, 576, (.inl (fun _ => 0)))), (q_2, .inl (cI, 48, (.inl (fun _ => 0))))] := hD
  refine W.widen (k := 2) (n := 624) (Nat.le_of_ble_eq_true rfl) (Nat.le_of_ble_eq_true rfl) ?_
  refine va_putF (D := (dC, dI)) (ci := 1) (v := .ref q_2) (ty := (.array .int)) (C := RX1) (T := TX1) (N := 6) hx hb hts hiX1 tyX1 tyX1_ok nmX1 hown hK hP hD hS 0 rfl rfl 1 (by decide) (hts (.fieldLink RX1 15 "ScissorsTable$Bag" "solids" "[I") (by decide +kernel)) (fun _ h9 => h9) rfl hin rfl (by decide +kernel) rfl rfl (Nat.le_of_ble_eq_true rfl) dX1_init_18 (fun H locs hP hD hS => ?_)
  have hP : va_P (dC, dI) vwCl [(h0, .inr (1, [.ref q_1, .ref q_2, .null, .null, .null, .int 0])), (q_1, .inl (cI, 576, (.inl (fun _ => 0)))), (q_2, .inl (cI, 48, (.inl (fun _ => 0))))] H := hP
  have hD : va_D A [(h0, .inr (1, [.ref q_1, .ref q_2, .null, .null, .null, .int 0])), (q_1, .inl (cI, 576, (.inl (fun _ => 0)))), (q_2, .inl (cI, 48, (.inl (fun _ => 0))))] := hD
  refine lv_aload_n hx hb dX1_init_21 rfl (lv_at hl 0 rfl) ?_
  refine lv_bipush (v := 48) hx hb dX1_init_22 (by decide) ?_
  refine va_newa (atype := .int) (ty := .int) (N' := 48) (a0 := (48, (.inl (fun _ => 0)))) hx hb (hts (.arrayClass .int) (by decide +kernel)) rfl hK hP hD hS hA (fun _ => rfl) (by decide) (by decide) (Nat.le_of_ble_eq_true rfl) (Nat.le_of_ble_eq_true rfl) (Nat.le_of_ble_eq_true rfl) dX1_init_24 (fun q_3 cA H hKn hP hD hS => ?_)
  obtain rfl : cI = cA := nk_same hK hKn 1 rfl (fun h => h) (fun h => h)
  have hP : va_P (dC, dI) vwCl [(h0, .inr (1, [.ref q_1, .ref q_2, .null, .null, .null, .int 0])), (q_1, .inl (cI, 576, (.inl (fun _ => 0)))), (q_2, .inl (cI, 48, (.inl (fun _ => 0)))), (q_3, .inl (cI, 48, (.inl (fun _ => 0))))] H := hP
  have hD : va_D A [(h0, .inr (1, [.ref q_1, .ref q_2, .null, .null, .null, .int 0])), (q_1, .inl (cI, 576, (.inl (fun _ => 0)))), (q_2, .inl (cI, 48, (.inl (fun _ => 0)))), (q_3, .inl (cI, 48, (.inl (fun _ => 0))))] := hD
  refine W.widen (k := 3) (n := 672) (Nat.le_of_ble_eq_true rfl) (Nat.le_of_ble_eq_true rfl) ?_
  refine va_putF (D := (dC, dI)) (ci := 1) (v := .ref q_3) (ty := (.array .int)) (C := RX1) (T := TX1) (N := 6) hx hb hts hiX1 tyX1 tyX1_ok nmX1 hown hK hP hD hS 0 rfl rfl 2 (by decide) (hts (.fieldLink RX1 18 "ScissorsTable$Bag" "sixes" "[I") (by decide +kernel)) (fun _ h9 => h9) rfl hin rfl (by decide +kernel) rfl rfl (Nat.le_of_ble_eq_true rfl) dX1_init_26 (fun H locs hP hD hS => ?_)
  have hP : va_P (dC, dI) vwCl [(h0, .inr (1, [.ref q_1, .ref q_2, .ref q_3, .null, .null, .int 0])), (q_1, .inl (cI, 576, (.inl (fun _ => 0)))), (q_2, .inl (cI, 48, (.inl (fun _ => 0)))), (q_3, .inl (cI, 48, (.inl (fun _ => 0))))] H := hP
  have hD : va_D A [(h0, .inr (1, [.ref q_1, .ref q_2, .ref q_3, .null, .null, .int 0])), (q_1, .inl (cI, 576, (.inl (fun _ => 0)))), (q_2, .inl (cI, 48, (.inl (fun _ => 0)))), (q_3, .inl (cI, 48, (.inl (fun _ => 0))))] := hD
  refine lv_aload_n hx hb dX1_init_29 rfl (lv_at hl 0 rfl) ?_
  refine lv_bipush (v := 12) hx hb dX1_init_30 (by decide) ?_
  refine va_newa (atype := .int) (ty := .int) (N' := 12) (a0 := (12, (.inl (fun _ => 0)))) hx hb (hts (.arrayClass .int) (by decide +kernel)) rfl hK hP hD hS hA (fun _ => rfl) (by decide) (by decide) (Nat.le_of_ble_eq_true rfl) (Nat.le_of_ble_eq_true rfl) (Nat.le_of_ble_eq_true rfl) dX1_init_32 (fun q_4 cA H hKn hP hD hS => ?_)
  obtain rfl : cI = cA := nk_same hK hKn 1 rfl (fun h => h) (fun h => h)
  have hP : va_P (dC, dI) vwCl [(h0, .inr (1, [.ref q_1, .ref q_2, .ref q_3, .null, .null, .int 0])), (q_1, .inl (cI, 576, (.inl (fun _ => 0)))), (q_2, .inl (cI, 48, (.inl (fun _ => 0)))), (q_3, .inl (cI, 48, (.inl (fun _ => 0)))), (q_4, .inl (cI, 12, (.inl (fun _ => 0))))] H := hP
  have hD : va_D A [(h0, .inr (1, [.ref q_1, .ref q_2, .ref q_3, .null, .null, .int 0])), (q_1, .inl (cI, 576, (.inl (fun _ => 0)))), (q_2, .inl (cI, 48, (.inl (fun _ => 0)))), (q_3, .inl (cI, 48, (.inl (fun _ => 0)))), (q_4, .inl (cI, 12, (.inl (fun _ => 0))))] := hD
  refine W.widen (k := 4) (n := 684) (Nat.le_of_ble_eq_true rfl) (Nat.le_of_ble_eq_true rfl) ?_
  refine va_putF (D := (dC, dI)) (ci := 1) (v := .ref q_4) (ty := (.array .int)) (C := RX1) (T := TX1) (N := 6) hx hb hts hiX1 tyX1 tyX1_ok nmX1 hown hK hP hD hS 0 rfl rfl 3 (by decide) (hts (.fieldLink RX1 21 "ScissorsTable$Bag" "whole" "[I") (by decide +kernel)) (fun _ h9 => h9) rfl hin rfl (by decide +kernel) rfl rfl (Nat.le_of_ble_eq_true rfl) dX1_init_34 (fun H locs hP hD hS => ?_)
  have hP : va_P (dC, dI) vwCl [(h0, .inr (1, [.ref q_1, .ref q_2, .ref q_3, .ref q_4, .null, .int 0])), (q_1, .inl (cI, 576, (.inl (fun _ => 0)))), (q_2, .inl (cI, 48, (.inl (fun _ => 0)))), (q_3, .inl (cI, 48, (.inl (fun _ => 0)))), (q_4, .inl (cI, 12, (.inl (fun _ => 0))))] H := hP
  have hD : va_D A [(h0, .inr (1, [.ref q_1, .ref q_2, .ref q_3, .ref q_4, .null, .int 0])), (q_1, .inl (cI, 576, (.inl (fun _ => 0)))), (q_2, .inl (cI, 48, (.inl (fun _ => 0)))), (q_3, .inl (cI, 48, (.inl (fun _ => 0)))), (q_4, .inl (cI, 12, (.inl (fun _ => 0))))] := hD
  refine lv_aload_n hx hb dX1_init_37 rfl (lv_at hl 0 rfl) ?_
  refine lv_bipush (v := 12) hx hb dX1_init_38 (by decide) ?_
  refine va_newa (atype := .int) (ty := .int) (N' := 12) (a0 := (12, (.inl (fun _ => 0)))) hx hb (hts (.arrayClass .int) (by decide +kernel)) rfl hK hP hD hS hA (fun _ => rfl) (by decide) (by decide) (Nat.le_of_ble_eq_true rfl) (Nat.le_of_ble_eq_true rfl) (Nat.le_of_ble_eq_true rfl) dX1_init_40 (fun q_5 cA H hKn hP hD hS => ?_)
  obtain rfl : cI = cA := nk_same hK hKn 1 rfl (fun h => h) (fun h => h)
  have hP : va_P (dC, dI) vwCl [(h0, .inr (1, [.ref q_1, .ref q_2, .ref q_3, .ref q_4, .null, .int 0])), (q_1, .inl (cI, 576, (.inl (fun _ => 0)))), (q_2, .inl (cI, 48, (.inl (fun _ => 0)))), (q_3, .inl (cI, 48, (.inl (fun _ => 0)))), (q_4, .inl (cI, 12, (.inl (fun _ => 0)))), (q_5, .inl (cI, 12, (.inl (fun _ => 0))))] H := hP
  have hD : va_D A [(h0, .inr (1, [.ref q_1, .ref q_2, .ref q_3, .ref q_4, .null, .int 0])), (q_1, .inl (cI, 576, (.inl (fun _ => 0)))), (q_2, .inl (cI, 48, (.inl (fun _ => 0)))), (q_3, .inl (cI, 48, (.inl (fun _ => 0)))), (q_4, .inl (cI, 12, (.inl (fun _ => 0)))), (q_5, .inl (cI, 12, (.inl (fun _ => 0))))] := hD
  refine W.widen (k := 5) (n := 696) (Nat.le_of_ble_eq_true rfl) (Nat.le_of_ble_eq_true rfl) ?_
  refine va_putF (D := (dC, dI)) (ci := 1) (v := .ref q_5) (ty := (.array .int)) (C := RX1) (T := TX1) (N := 6) hx hb hts hiX1 tyX1 tyX1_ok nmX1 hown hK hP hD hS 0 rfl rfl 4 (by decide) (hts (.fieldLink RX1 24 "ScissorsTable$Bag" "piece" "[I") (by decide +kernel)) (fun _ h9 => h9) rfl hin rfl (by decide +kernel) rfl rfl (Nat.le_of_ble_eq_true rfl) dX1_init_42 (fun H locs hP hD hS => ?_)
  have hP : va_P (dC, dI) vwCl [(h0, .inr (1, [.ref q_1, .ref q_2, .ref q_3, .ref q_4, .ref q_5, .int 0])), (q_1, .inl (cI, 576, (.inl (fun _ => 0)))), (q_2, .inl (cI, 48, (.inl (fun _ => 0)))), (q_3, .inl (cI, 48, (.inl (fun _ => 0)))), (q_4, .inl (cI, 12, (.inl (fun _ => 0)))), (q_5, .inl (cI, 12, (.inl (fun _ => 0))))] H := hP
  have hD : va_D A [(h0, .inr (1, [.ref q_1, .ref q_2, .ref q_3, .ref q_4, .ref q_5, .int 0])), (q_1, .inl (cI, 576, (.inl (fun _ => 0)))), (q_2, .inl (cI, 48, (.inl (fun _ => 0)))), (q_3, .inl (cI, 48, (.inl (fun _ => 0)))), (q_4, .inl (cI, 12, (.inl (fun _ => 0)))), (q_5, .inl (cI, 12, (.inl (fun _ => 0))))] := hD
  have hP9 := hP.sub (ws' := [(h0, .inr (1, [.ref q_1, .ref q_2, .ref q_3, .ref q_4, .ref q_5, .int 0])), (q_1, .inl (cI, 576, (.inl (fun _ => 0)))), (q_2, .inl (cI, 48, (.inl (fun _ => 0)))), (q_3, .inl (cI, 48, (.inl (fun _ => 0)))), (q_4, .inl (cI, 12, (.inl (fun _ => 0)))), (q_5, .inl (cI, 12, (.inl (fun _ => 0))))]) [0, 1, 2, 3, 4, 5] rfl
  have hD9 := hD.sub (ws' := [(h0, .inr (1, [.ref q_1, .ref q_2, .ref q_3, .ref q_4, .ref q_5, .int 0])), (q_1, .inl (cI, 576, (.inl (fun _ => 0)))), (q_2, .inl (cI, 48, (.inl (fun _ => 0)))), (q_3, .inl (cI, 48, (.inl (fun _ => 0)))), (q_4, .inl (cI, 12, (.inl (fun _ => 0)))), (q_5, .inl (cI, 12, (.inl (fun _ => 0))))]) [0, 1, 2, 3, 4, 5] (by decide) rfl
  refine W.widen (k := 5) (n := 696) (Nat.le_of_ble_eq_true rfl) (Nat.le_of_ble_eq_true rfl) ?_
  exact W.vret hx hb hr (fun t ht hW => ⟨⟨(), rfl, trivial, q_1, q_2, q_3, q_4, q_5, by rw [ht]; exact hP9, va_K.moved hW.alike hK, hD9⟩, hS.F ht⟩) hS.2.2 dX1_init_45
set_option maxHeartbeats 4000000 in
set_option maxRecDepth 100000 in
theorem c_X0_init (l : Launch) (dC : Nat → ClassId) (dI : Nat → Nat → Nat) (cB cI cJ : ClassId) (sz : Nat) (h0 : Nat) : Met l yX0_init wsX0_init ({ frames := 1, cells := 5, slots := 33, locals := 24 }) (va_Pc [.ref h0] (fun U => U.heap.size = sz ∧ va_P (dC, dI) vwCl [(h0, .inr (0, [.int 0, .int 0, .int 0, .int 0, .int 0, .int 0, .null, .null, .null, .null, .null, .int 0, .int 0]))] U.heap ∧ va_K (dC, dI) vwCl [(cB, .byte), (cI, .int), (cJ, .long)] U ∧ va_D (fun _ => True) [(h0, .inr (0, [.int 0, .int 0, .int 0, .int 0, .int 0, .int 0, .null, .null, .null, .null, .null, .int 0, .int 0]))])) (va_Qv (fun _ : Unit => True) (fun _ t => ∃ q_1 : Nat, ∃ q_2 : Nat, ∃ q_3 : Nat, ∃ q_4 : Nat, ∃ q_5 : Nat, va_P (dC, dI) vwCl [(h0, .inr (0, [.int 0, .int 0, .int 0, .int 0, .int 0, .int 0, .ref q_1, .ref q_2, .ref q_3, .ref q_4, .ref q_5, .int 0, .int 0])), (q_1, .inl (cI, 12, (.inl (fun _ => 0)))), (q_2, .inl (cI, 12, (.inl (fun _ => 0)))), (q_3, .inl (cI, 3, (.inl (fun _ => 0)))), (q_4, .inl (cI, 3, (.inl (fun _ => 0)))), (q_5, .inl (cI, 3, (.inl (fun _ => 0))))] t.heap ∧ va_K (dC, dI) vwCl [(cB, .byte), (cI, .int), (cJ, .long)] t ∧ va_D (va_A [(h0, .inr (0, [.int 0, .int 0, .int 0, .int 0, .int 0, .int 0, .null, .null, .null, .null, .null, .int 0, .int 0]))] sz) [(h0, .inr (0, [.int 0, .int 0, .int 0, .int 0, .int 0, .int 0, .ref q_1, .ref q_2, .ref q_3, .ref q_4, .ref q_5, .int 0, .int 0])), (q_1, .inl (cI, 12, (.inl (fun _ => 0)))), (q_2, .inl (cI, 12, (.inl (fun _ => 0)))), (q_3, .inl (cI, 3, (.inl (fun _ => 0)))), (q_4, .inl (cI, 3, (.inl (fun _ => 0)))), (q_5, .inl (cI, 3, (.inl (fun _ => 0))))]) (va_A [(h0, .inr (0, [.int 0, .int 0, .int 0, .int 0, .int 0, .int 0, .null, .null, .null, .null, .null, .int 0, .int 0]))] sz)) 5 33 (va_A [(h0, .inr (0, [.int 0, .int 0, .int 0, .int 0, .int 0, .int 0, .null, .null, .null, .null, .null, .int 0, .int 0]))] sz) := by
  refine Met.ofW (cc := cX0_init) (maxL := 1) (ret := none) (by decide) rfl ?_
  intro p e s m args below meth c s₁ B hml hv
  obtain ⟨rfl, hsz, hP, hK, hD0⟩ := hv
  have hx := B.exec
  have hb := B.bytes
  have hr := B.returns
  have hts := atoms_spec (ws := wsX0_init) B.pre
  have hown : s.vm.findClass RX0 = some m.cls := findClass_of_methodNamed B.named
  have hlocks := B.notSynchronized
  have hin : meth.name = "<init>" := (name_of_methodNamed B.named B.method).1
  have hiX0 : ∀ w ∈ u_ws RX0 TX0 13, w ∈ wsX0_init := by decide +kernel
  subst hsz
  have hD := hD0.self (sz := s.heap.size)
  generalize hAe : va_A [(h0, .inr (0, [.int 0, .int 0, .int 0, .int 0, .int 0, .int 0, .null, .null, .null, .null, .null, .int 0, .int 0]))] s.heap.size = A at hD ⊢
  have hA : ∀ q : Nat, s.heap.size ≤ q → A q := fun q h => by rw [← hAe]; exact Or.inr h
  have hS : va_S A s.heap s.heap [] := va_S.rf
  have hP : va_P (dC, dI) vwCl [(h0, .inr (0, [.int 0, .int 0, .int 0, .int 0, .int 0, .int 0, .null, .null, .null, .null, .null, .int 0, .int 0]))] s.heap := hP
  have hl := lv_entry ([.ref h0]) (n := 1) (Nat.le_of_ble_eq_true rfl)
  rw [lg_entry_eq]
  generalize (lg_sl ([.ref h0]) ++ List.replicate (1 - (lg_sl ([.ref h0])).length) Slot.unset).toArray = ls at hl ⊢
  have hl : lv_has ls 1 [(0, .ref h0)] := hl
  refine lv_aload_n hx hb dX0_init_0 rfl (lv_at hl 0 rfl) ?_
  refine W.objInit hx hb hown (hts (.methodLink RX0 3 objectInit) (by decide +kernel)) (hts (.instanceMethod objectInit) (by decide +kernel)) (hts _ (List.mem_of_getElem? (i := 3) rfl)) rfl (by rw [hml]; exact hl.1) rfl dX0_init_1 (Nat.le_of_ble_eq_true rfl) (Nat.le_of_ble_eq_true rfl) ?_
  refine W.eq (g2 := F0 m 4 ls []) rfl ?_
  refine lv_aload_n hx hb dX0_init_4 rfl (lv_at hl 0 rfl) ?_
  refine lv_bipush (v := 12) hx hb dX0_init_5 (by decide) ?_
  refine va_newa (atype := .int) (ty := .int) (N' := 12) (a0 := (12, (.inl (fun _ => 0)))) hx hb (hts (.arrayClass .int) (by decide +kernel)) rfl hK hP hD hS hA (fun _ => rfl) (by decide) (by decide) (Nat.le_of_ble_eq_true rfl) (Nat.le_of_ble_eq_true rfl) (Nat.le_of_ble_eq_true rfl) dX0_init_7 (fun q_1 cA H hKn hP hD hS => ?_)
  obtain rfl : cI = cA := nk_same hK hKn 1 rfl (fun h => h) (fun h => h)
  have hP : va_P (dC, dI) vwCl [(h0, .inr (0, [.int 0, .int 0, .int 0, .int 0, .int 0, .int 0, .null, .null, .null, .null, .null, .int 0, .int 0])), (q_1, .inl (cI, 12, (.inl (fun _ => 0))))] H := hP
  have hD : va_D A [(h0, .inr (0, [.int 0, .int 0, .int 0, .int 0, .int 0, .int 0, .null, .null, .null, .null, .null, .int 0, .int 0])), (q_1, .inl (cI, 12, (.inl (fun _ => 0))))] := hD
  refine W.widen (k := 1) (n := 12) (Nat.le_of_ble_eq_true rfl) (Nat.le_of_ble_eq_true rfl) ?_
  refine va_putF (D := (dC, dI)) (ci := 0) (v := .ref q_1) (ty := (.array .int)) (C := RX0) (T := TX0) (N := 13) hx hb hts hiX0 tyX0 tyX0_ok nmX0 hown hK hP hD hS 0 rfl rfl 6 (by decide) (hts (.fieldLink RX0 11 "ScissorsTable$Angle" "primes" "[I") (by decide +kernel)) (fun _ h9 => h9) rfl hin rfl (by decide +kernel) rfl rfl (Nat.le_of_ble_eq_true rfl) dX0_init_9 (fun H locs hP hD hS => ?_)
  have hP : va_P (dC, dI) vwCl [(h0, .inr (0, [.int 0, .int 0, .int 0, .int 0, .int 0, .int 0, .ref q_1, .null, .null, .null, .null, .int 0, .int 0])), (q_1, .inl (cI, 12, (.inl (fun _ => 0))))] H := hP
  have hD : va_D A [(h0, .inr (0, [.int 0, .int 0, .int 0, .int 0, .int 0, .int 0, .ref q_1, .null, .null, .null, .null, .int 0, .int 0])), (q_1, .inl (cI, 12, (.inl (fun _ => 0))))] := hD
  refine lv_aload_n hx hb dX0_init_12 rfl (lv_at hl 0 rfl) ?_
  refine lv_bipush (v := 12) hx hb dX0_init_13 (by decide) ?_
  refine va_newa (atype := .int) (ty := .int) (N' := 12) (a0 := (12, (.inl (fun _ => 0)))) hx hb (hts (.arrayClass .int) (by decide +kernel)) rfl hK hP hD hS hA (fun _ => rfl) (by decide) (by decide) (Nat.le_of_ble_eq_true rfl) (Nat.le_of_ble_eq_true rfl) (Nat.le_of_ble_eq_true rfl) dX0_init_15 (fun q_2 cA H hKn hP hD hS => ?_)
  obtain rfl : cI = cA := nk_same hK hKn 1 rfl (fun h => h) (fun h => h)
  have hP : va_P (dC, dI) vwCl [(h0, .inr (0, [.int 0, .int 0, .int 0, .int 0, .int 0, .int 0, .ref q_1, .null, .null, .null, .null, .int 0, .int 0])), (q_1, .inl (cI, 12, (.inl (fun _ => 0)))), (q_2, .inl (cI, 12, (.inl (fun _ => 0))))] H := hP
  have hD : va_D A [(h0, .inr (0, [.int 0, .int 0, .int 0, .int 0, .int 0, .int 0, .ref q_1, .null, .null, .null, .null, .int 0, .int 0])), (q_1, .inl (cI, 12, (.inl (fun _ => 0)))), (q_2, .inl (cI, 12, (.inl (fun _ => 0))))] := hD
  refine W.widen (k := 2) (n := 24) (Nat.le_of_ble_eq_true rfl) (Nat.le_of_ble_eq_true rfl) ?_
  refine va_putF (D := (dC, dI)) (ci := 0) (v := .ref q_2) (ty := (.array .int)) (C := RX0) (T := TX0) (N := 13) hx hb hts hiX0 tyX0 tyX0_ok nmX0 hown hK hP hD hS 0 rfl rfl 7 (by decide) (hts (.fieldLink RX0 15 "ScissorsTable$Angle" "powers" "[I") (by decide +kernel)) (fun _ h9 => h9) rfl hin rfl (by decide +kernel) rfl rfl (Nat.le_of_ble_eq_true rfl) dX0_init_17 (fun H locs hP hD hS => ?_)
  have hP : va_P (dC, dI) vwCl [(h0, .inr (0, [.int 0, .int 0, .int 0, .int 0, .int 0, .int 0, .ref q_1, .ref q_2, .null, .null, .null, .int 0, .int 0])), (q_1, .inl (cI, 12, (.inl (fun _ => 0)))), (q_2, .inl (cI, 12, (.inl (fun _ => 0))))] H := hP
  have hD : va_D A [(h0, .inr (0, [.int 0, .int 0, .int 0, .int 0, .int 0, .int 0, .ref q_1, .ref q_2, .null, .null, .null, .int 0, .int 0])), (q_1, .inl (cI, 12, (.inl (fun _ => 0)))), (q_2, .inl (cI, 12, (.inl (fun _ => 0))))] := hD
  refine lv_aload_n hx hb dX0_init_20 rfl (lv_at hl 0 rfl) ?_
  refine lv_iconst (v := 3) hx hb dX0_init_21 (by decide) ?_
  refine va_newa (atype := .int) (ty := .int) (N' := 3) (a0 := (3, (.inl (fun _ => 0)))) hx hb (hts (.arrayClass .int) (by decide +kernel)) rfl hK hP hD hS hA (fun _ => rfl) (by decide) (by decide) (Nat.le_of_ble_eq_true rfl) (Nat.le_of_ble_eq_true rfl) (Nat.le_of_ble_eq_true rfl) dX0_init_22 (fun q_3 cA H hKn hP hD hS => ?_)
  obtain rfl : cI = cA := nk_same hK hKn 1 rfl (fun h => h) (fun h => h)
  have hP : va_P (dC, dI) vwCl [(h0, .inr (0, [.int 0, .int 0, .int 0, .int 0, .int 0, .int 0, .ref q_1, .ref q_2, .null, .null, .null, .int 0, .int 0])), (q_1, .inl (cI, 12, (.inl (fun _ => 0)))), (q_2, .inl (cI, 12, (.inl (fun _ => 0)))), (q_3, .inl (cI, 3, (.inl (fun _ => 0))))] H := hP
  have hD : va_D A [(h0, .inr (0, [.int 0, .int 0, .int 0, .int 0, .int 0, .int 0, .ref q_1, .ref q_2, .null, .null, .null, .int 0, .int 0])), (q_1, .inl (cI, 12, (.inl (fun _ => 0)))), (q_2, .inl (cI, 12, (.inl (fun _ => 0)))), (q_3, .inl (cI, 3, (.inl (fun _ => 0))))] := hD
  refine W.widen (k := 3) (n := 27) (Nat.le_of_ble_eq_true rfl) (Nat.le_of_ble_eq_true rfl) ?_
  refine va_putF (D := (dC, dI)) (ci := 0) (v := .ref q_3) (ty := (.array .int)) (C := RX0) (T := TX0) (N := 13) hx hb hts hiX0 tyX0 tyX0_ok nmX0 hown hK hP hD hS 0 rfl rfl 8 (by decide) (hts (.fieldLink RX0 18 "ScissorsTable$Angle" "along" "[I") (by decide +kernel)) (fun _ h9 => h9) rfl hin rfl (by decide +kernel) rfl rfl (Nat.le_of_ble_eq_true rfl) dX0_init_24 (fun H locs hP hD hS => ?_)
  have hP : va_P (dC, dI) vwCl [(h0, .inr (0, [.int 0, .int 0, .int 0, .int 0, .int 0, .int 0, .ref q_1, .ref q_2, .ref q_3, .null, .null, .int 0, .int 0])), (q_1, .inl (cI, 12, (.inl (fun _ => 0)))), (q_2, .inl (cI, 12, (.inl (fun _ => 0)))), (q_3, .inl (cI, 3, (.inl (fun _ => 0))))] H := hP
  have hD : va_D A [(h0, .inr (0, [.int 0, .int 0, .int 0, .int 0, .int 0, .int 0, .ref q_1, .ref q_2, .ref q_3, .null, .null, .int 0, .int 0])), (q_1, .inl (cI, 12, (.inl (fun _ => 0)))), (q_2, .inl (cI, 12, (.inl (fun _ => 0)))), (q_3, .inl (cI, 3, (.inl (fun _ => 0))))] := hD
  refine lv_aload_n hx hb dX0_init_27 rfl (lv_at hl 0 rfl) ?_
  refine lv_iconst (v := 3) hx hb dX0_init_28 (by decide) ?_
  refine va_newa (atype := .int) (ty := .int) (N' := 3) (a0 := (3, (.inl (fun _ => 0)))) hx hb (hts (.arrayClass .int) (by decide +kernel)) rfl hK hP hD hS hA (fun _ => rfl) (by decide) (by decide) (Nat.le_of_ble_eq_true rfl) (Nat.le_of_ble_eq_true rfl) (Nat.le_of_ble_eq_true rfl) dX0_init_29 (fun q_4 cA H hKn hP hD hS => ?_)
  obtain rfl : cI = cA := nk_same hK hKn 1 rfl (fun h => h) (fun h => h)
  have hP : va_P (dC, dI) vwCl [(h0, .inr (0, [.int 0, .int 0, .int 0, .int 0, .int 0, .int 0, .ref q_1, .ref q_2, .ref q_3, .null, .null, .int 0, .int 0])), (q_1, .inl (cI, 12, (.inl (fun _ => 0)))), (q_2, .inl (cI, 12, (.inl (fun _ => 0)))), (q_3, .inl (cI, 3, (.inl (fun _ => 0)))), (q_4, .inl (cI, 3, (.inl (fun _ => 0))))] H := hP
  have hD : va_D A [(h0, .inr (0, [.int 0, .int 0, .int 0, .int 0, .int 0, .int 0, .ref q_1, .ref q_2, .ref q_3, .null, .null, .int 0, .int 0])), (q_1, .inl (cI, 12, (.inl (fun _ => 0)))), (q_2, .inl (cI, 12, (.inl (fun _ => 0)))), (q_3, .inl (cI, 3, (.inl (fun _ => 0)))), (q_4, .inl (cI, 3, (.inl (fun _ => 0))))] := hD
  refine W.widen (k := 4) (n := 30) (Nat.le_of_ble_eq_true rfl) (Nat.le_of_ble_eq_true rfl) ?_
  refine va_putF (D := (dC, dI)) (ci := 0) (v := .ref q_4) (ty := (.array .int)) (C := RX0) (T := TX0) (N := 13) hx hb hts hiX0 tyX0 tyX0_ok nmX0 hown hK hP hD hS 0 rfl rfl 9 (by decide) (hts (.fieldLink RX0 21 "ScissorsTable$Angle" "one" "[I") (by decide +kernel)) (fun _ h9 => h9) rfl hin rfl (by decide +kernel) rfl rfl (Nat.le_of_ble_eq_true rfl) dX0_init_31 (fun H locs hP hD hS => ?_)
  have hP : va_P (dC, dI) vwCl [(h0, .inr (0, [.int 0, .int 0, .int 0, .int 0, .int 0, .int 0, .ref q_1, .ref q_2, .ref q_3, .ref q_4, .null, .int 0, .int 0])), (q_1, .inl (cI, 12, (.inl (fun _ => 0)))), (q_2, .inl (cI, 12, (.inl (fun _ => 0)))), (q_3, .inl (cI, 3, (.inl (fun _ => 0)))), (q_4, .inl (cI, 3, (.inl (fun _ => 0))))] H := hP
  have hD : va_D A [(h0, .inr (0, [.int 0, .int 0, .int 0, .int 0, .int 0, .int 0, .ref q_1, .ref q_2, .ref q_3, .ref q_4, .null, .int 0, .int 0])), (q_1, .inl (cI, 12, (.inl (fun _ => 0)))), (q_2, .inl (cI, 12, (.inl (fun _ => 0)))), (q_3, .inl (cI, 3, (.inl (fun _ => 0)))), (q_4, .inl (cI, 3, (.inl (fun _ => 0))))] := hD
  refine lv_aload_n hx hb dX0_init_34 rfl (lv_at hl 0 rfl) ?_
  refine lv_iconst (v := 3) hx hb dX0_init_35 (by decide) ?_
  refine va_newa (atype := .int) (ty := .int) (N' := 3) (a0 := (3, (.inl (fun _ => 0)))) hx hb (hts (.arrayClass .int) (by decide +kernel)) rfl hK hP hD hS hA (fun _ => rfl) (by decide) (by decide) (Nat.le_of_ble_eq_true rfl) (Nat.le_of_ble_eq_true rfl) (Nat.le_of_ble_eq_true rfl) dX0_init_36 (fun q_5 cA H hKn hP hD hS => ?_)
  obtain rfl : cI = cA := nk_same hK hKn 1 rfl (fun h => h) (fun h => h)
  have hP : va_P (dC, dI) vwCl [(h0, .inr (0, [.int 0, .int 0, .int 0, .int 0, .int 0, .int 0, .ref q_1, .ref q_2, .ref q_3, .ref q_4, .null, .int 0, .int 0])), (q_1, .inl (cI, 12, (.inl (fun _ => 0)))), (q_2, .inl (cI, 12, (.inl (fun _ => 0)))), (q_3, .inl (cI, 3, (.inl (fun _ => 0)))), (q_4, .inl (cI, 3, (.inl (fun _ => 0)))), (q_5, .inl (cI, 3, (.inl (fun _ => 0))))] H := hP
  have hD : va_D A [(h0, .inr (0, [.int 0, .int 0, .int 0, .int 0, .int 0, .int 0, .ref q_1, .ref q_2, .ref q_3, .ref q_4, .null, .int 0, .int 0])), (q_1, .inl (cI, 12, (.inl (fun _ => 0)))), (q_2, .inl (cI, 12, (.inl (fun _ => 0)))), (q_3, .inl (cI, 3, (.inl (fun _ => 0)))), (q_4, .inl (cI, 3, (.inl (fun _ => 0)))), (q_5, .inl (cI, 3, (.inl (fun _ => 0))))] := hD
  refine W.widen (k := 5) (n := 33) (Nat.le_of_ble_eq_true rfl) (Nat.le_of_ble_eq_true rfl) ?_
  refine va_putF (D := (dC, dI)) (ci := 0) (v := .ref q_5) (ty := (.array .int)) (C := RX0) (T := TX0) (N := 13) hx hb hts hiX0 tyX0 tyX0_ok nmX0 hown hK hP hD hS 0 rfl rfl 10 (by decide) (hts (.fieldLink RX0 24 "ScissorsTable$Angle" "other" "[I") (by decide +kernel)) (fun _ h9 => h9) rfl hin rfl (by decide +kernel) rfl rfl (Nat.le_of_ble_eq_true rfl) dX0_init_38 (fun H locs hP hD hS => ?_)
  have hP : va_P (dC, dI) vwCl [(h0, .inr (0, [.int 0, .int 0, .int 0, .int 0, .int 0, .int 0, .ref q_1, .ref q_2, .ref q_3, .ref q_4, .ref q_5, .int 0, .int 0])), (q_1, .inl (cI, 12, (.inl (fun _ => 0)))), (q_2, .inl (cI, 12, (.inl (fun _ => 0)))), (q_3, .inl (cI, 3, (.inl (fun _ => 0)))), (q_4, .inl (cI, 3, (.inl (fun _ => 0)))), (q_5, .inl (cI, 3, (.inl (fun _ => 0))))] H := hP
  have hD : va_D A [(h0, .inr (0, [.int 0, .int 0, .int 0, .int 0, .int 0, .int 0, .ref q_1, .ref q_2, .ref q_3, .ref q_4, .ref q_5, .int 0, .int 0])), (q_1, .inl (cI, 12, (.inl (fun _ => 0)))), (q_2, .inl (cI, 12, (.inl (fun _ => 0)))), (q_3, .inl (cI, 3, (.inl (fun _ => 0)))), (q_4, .inl (cI, 3, (.inl (fun _ => 0)))), (q_5, .inl (cI, 3, (.inl (fun _ => 0))))] := hD
  have hP9 := hP.sub (ws' := [(h0, .inr (0, [.int 0, .int 0, .int 0, .int 0, .int 0, .int 0, .ref q_1, .ref q_2, .ref q_3, .ref q_4, .ref q_5, .int 0, .int 0])), (q_1, .inl (cI, 12, (.inl (fun _ => 0)))), (q_2, .inl (cI, 12, (.inl (fun _ => 0)))), (q_3, .inl (cI, 3, (.inl (fun _ => 0)))), (q_4, .inl (cI, 3, (.inl (fun _ => 0)))), (q_5, .inl (cI, 3, (.inl (fun _ => 0))))]) [0, 1, 2, 3, 4, 5] rfl
  have hD9 := hD.sub (ws' := [(h0, .inr (0, [.int 0, .int 0, .int 0, .int 0, .int 0, .int 0, .ref q_1, .ref q_2, .ref q_3, .ref q_4, .ref q_5, .int 0, .int 0])), (q_1, .inl (cI, 12, (.inl (fun _ => 0)))), (q_2, .inl (cI, 12, (.inl (fun _ => 0)))), (q_3, .inl (cI, 3, (.inl (fun _ => 0)))), (q_4, .inl (cI, 3, (.inl (fun _ => 0)))), (q_5, .inl (cI, 3, (.inl (fun _ => 0))))]) [0, 1, 2, 3, 4, 5] (by decide) rfl
  refine W.widen (k := 5) (n := 33) (Nat.le_of_ble_eq_true rfl) (Nat.le_of_ble_eq_true rfl) ?_
  exact W.vret hx hb hr (fun t ht hW => ⟨⟨(), rfl, trivial, q_1, q_2, q_3, q_4, q_5, by rw [ht]; exact hP9, va_K.moved hW.alike hK, hD9⟩, hS.F ht⟩) hS.2.2 dX0_init_41
set_option maxHeartbeats 4000000 in
set_option maxRecDepth 100000 in
theorem c_X8_init (l : Launch) (dC : Nat → ClassId) (dI : Nat → Nat → Nat) (cB cI cJ : ClassId) (sz : Nat) (h0 : Nat) : Met l yX8_init wsX8_init ({ frames := 1, cells := 3, slots := 128, locals := 24 }) (va_Pc [.ref h0] (fun U => U.heap.size = sz ∧ va_P (dC, dI) vwCl [(h0, .inr (8, [.null, .null, .null, .int 0]))] U.heap ∧ va_K (dC, dI) vwCl [(cB, .byte), (cI, .int), (cJ, .long)] U ∧ va_D (fun _ => True) [(h0, .inr (8, [.null, .null, .null, .int 0]))])) (va_Qv (fun _ : Unit => True) (fun _ t => ∃ q_1 : Nat, ∃ q_2 : Nat, ∃ q_3 : Nat, va_P (dC, dI) vwCl [(h0, .inr (8, [.ref q_1, .ref q_2, .ref q_3, .int 0])), (q_1, .inl (cI, 16, (.inl (fun _ => 0)))), (q_2, .inl (cI, 16, (.inl (fun _ => 0)))), (q_3, .inl (cI, 96, (.inl (fun _ => 0))))] t.heap ∧ va_K (dC, dI) vwCl [(cB, .byte), (cI, .int), (cJ, .long)] t ∧ va_D (va_A [(h0, .inr (8, [.null, .null, .null, .int 0]))] sz) [(h0, .inr (8, [.ref q_1, .ref q_2, .ref q_3, .int 0])), (q_1, .inl (cI, 16, (.inl (fun _ => 0)))), (q_2, .inl (cI, 16, (.inl (fun _ => 0)))), (q_3, .inl (cI, 96, (.inl (fun _ => 0))))]) (va_A [(h0, .inr (8, [.null, .null, .null, .int 0]))] sz)) 3 128 (va_A [(h0, .inr (8, [.null, .null, .null, .int 0]))] sz) := by
  refine Met.ofW (cc := cX8_init) (maxL := 1) (ret := none) (by decide) rfl ?_
  intro p e s m args below meth c s₁ B hml hv
  obtain ⟨rfl, hsz, hP, hK, hD0⟩ := hv
  have hx := B.exec
  have hb := B.bytes
  have hr := B.returns
  have hts := atoms_spec (ws := wsX8_init) B.pre
  have hown : s.vm.findClass RX8 = some m.cls := findClass_of_methodNamed B.named
  have hlocks := B.notSynchronized
  have hin : meth.name = "<init>" := (name_of_methodNamed B.named B.method).1
  have hiX8 : ∀ w ∈ u_ws RX8 TX8 4, w ∈ wsX8_init := by decide +kernel
  subst hsz
  have hD := hD0.self (sz := s.heap.size)
  generalize hAe : va_A [(h0, .inr (8, [.null, .null, .null, .int 0]))] s.heap.size = A at hD ⊢
  have hA : ∀ q : Nat, s.heap.size ≤ q → A q := fun q h => by rw [← hAe]; exact Or.inr h
  have hS : va_S A s.heap s.heap [] := va_S.rf
  have hP : va_P (dC, dI) vwCl [(h0, .inr (8, [.null, .null, .null, .int 0]))] s.heap := hP
  have hl := lv_entry ([.ref h0]) (n := 1) (Nat.le_of_ble_eq_true rfl)
  rw [lg_entry_eq]
  generalize (lg_sl ([.ref h0]) ++ List.replicate (1 - (lg_sl ([.ref h0])).length) Slot.unset).toArray = ls at hl ⊢
  have hl : lv_has ls 1 [(0, .ref h0)] := hl
  refine lv_aload_n hx hb dX8_init_0 rfl (lv_at hl 0 rfl) ?_
  refine W.objInit hx hb hown (hts (.methodLink RX8 3 objectInit) (by decide +kernel)) (hts (.instanceMethod objectInit) (by decide +kernel)) (hts _ (List.mem_of_getElem? (i := 3) rfl)) rfl (by rw [hml]; exact hl.1) rfl dX8_init_1 (Nat.le_of_ble_eq_true rfl) (Nat.le_of_ble_eq_true rfl) ?_
  refine W.eq (g2 := F0 m 4 ls []) rfl ?_
  refine lv_aload_n hx hb dX8_init_4 rfl (lv_at hl 0 rfl) ?_
  refine lv_bipush (v := 16) hx hb dX8_init_5 (by decide) ?_
  refine va_newa (atype := .int) (ty := .int) (N' := 16) (a0 := (16, (.inl (fun _ => 0)))) hx hb (hts (.arrayClass .int) (by decide +kernel)) rfl hK hP hD hS hA (fun _ => rfl) (by decide) (by decide) (Nat.le_of_ble_eq_true rfl) (Nat.le_of_ble_eq_true rfl) (Nat.le_of_ble_eq_true rfl) dX8_init_7 (fun q_1 cA H hKn hP hD hS => ?_)
  obtain rfl : cI = cA := nk_same hK hKn 1 rfl (fun h => h) (fun h => h)
  have hP : va_P (dC, dI) vwCl [(h0, .inr (8, [.null, .null, .null, .int 0])), (q_1, .inl (cI, 16, (.inl (fun _ => 0))))] H := hP
  have hD : va_D A [(h0, .inr (8, [.null, .null, .null, .int 0])), (q_1, .inl (cI, 16, (.inl (fun _ => 0))))] := hD
  refine W.widen (k := 1) (n := 16) (Nat.le_of_ble_eq_true rfl) (Nat.le_of_ble_eq_true rfl) ?_
  refine va_put (D := (dC, dI)) (ci := 8) (v := .ref q_1) (ty := (.array .int)) (C := RX8) (T := TX8) (N := 4) hx hb hts hiX8 tyX8 tyX8_ok nmX8 hown hK hP hD hS 0 rfl rfl 0 (by decide) (hts (.fieldLink RX8 11 "ScissorsTable$Sums" "ms" "[I") (by decide +kernel)) (fun _ h9 => h9) rfl (by decide +kernel) rfl rfl (Nat.le_of_ble_eq_true rfl) dX8_init_9 (fun H locs hP hD hS => ?_)
  have hP : va_P (dC, dI) vwCl [(h0, .inr (8, [.ref q_1, .null, .null, .int 0])), (q_1, .inl (cI, 16, (.inl (fun _ => 0))))] H := hP
  have hD : va_D A [(h0, .inr (8, [.ref q_1, .null, .null, .int 0])), (q_1, .inl (cI, 16, (.inl (fun _ => 0))))] := hD
  refine lv_aload_n hx hb dX8_init_12 rfl (lv_at hl 0 rfl) ?_
  refine lv_bipush (v := 16) hx hb dX8_init_13 (by decide) ?_
  refine va_newa (atype := .int) (ty := .int) (N' := 16) (a0 := (16, (.inl (fun _ => 0)))) hx hb (hts (.arrayClass .int) (by decide +kernel)) rfl hK hP hD hS hA (fun _ => rfl) (by decide) (by decide) (Nat.le_of_ble_eq_true rfl) (Nat.le_of_ble_eq_true rfl) (Nat.le_of_ble_eq_true rfl) dX8_init_15 (fun q_2 cA H hKn hP hD hS => ?_)
  obtain rfl : cI = cA := nk_same hK hKn 1 rfl (fun h => h) (fun h => h)
  have hP : va_P (dC, dI) vwCl [(h0, .inr (8, [.ref q_1, .null, .null, .int 0])), (q_1, .inl (cI, 16, (.inl (fun _ => 0)))), (q_2, .inl (cI, 16, (.inl (fun _ => 0))))] H := hP
  have hD : va_D A [(h0, .inr (8, [.ref q_1, .null, .null, .int 0])), (q_1, .inl (cI, 16, (.inl (fun _ => 0)))), (q_2, .inl (cI, 16, (.inl (fun _ => 0))))] := hD
  refine W.widen (k := 2) (n := 32) (Nat.le_of_ble_eq_true rfl) (Nat.le_of_ble_eq_true rfl) ?_
  refine va_put (D := (dC, dI)) (ci := 8) (v := .ref q_2) (ty := (.array .int)) (C := RX8) (T := TX8) (N := 4) hx hb hts hiX8 tyX8 tyX8_ok nmX8 hown hK hP hD hS 0 rfl rfl 1 (by decide) (hts (.fieldLink RX8 15 "ScissorsTable$Sums" "ps" "[I") (by decide +kernel)) (fun _ h9 => h9) rfl (by decide +kernel) rfl rfl (Nat.le_of_ble_eq_true rfl) dX8_init_17 (fun H locs hP hD hS => ?_)
  have hP : va_P (dC, dI) vwCl [(h0, .inr (8, [.ref q_1, .ref q_2, .null, .int 0])), (q_1, .inl (cI, 16, (.inl (fun _ => 0)))), (q_2, .inl (cI, 16, (.inl (fun _ => 0))))] H := hP
  have hD : va_D A [(h0, .inr (8, [.ref q_1, .ref q_2, .null, .int 0])), (q_1, .inl (cI, 16, (.inl (fun _ => 0)))), (q_2, .inl (cI, 16, (.inl (fun _ => 0))))] := hD
  refine lv_aload_n hx hb dX8_init_20 rfl (lv_at hl 0 rfl) ?_
  refine lv_bipush (v := 96) hx hb dX8_init_21 (by decide) ?_
  refine va_newa (atype := .int) (ty := .int) (N' := 96) (a0 := (96, (.inl (fun _ => 0)))) hx hb (hts (.arrayClass .int) (by decide +kernel)) rfl hK hP hD hS hA (fun _ => rfl) (by decide) (by decide) (Nat.le_of_ble_eq_true rfl) (Nat.le_of_ble_eq_true rfl) (Nat.le_of_ble_eq_true rfl) dX8_init_23 (fun q_3 cA H hKn hP hD hS => ?_)
  obtain rfl : cI = cA := nk_same hK hKn 1 rfl (fun h => h) (fun h => h)
  have hP : va_P (dC, dI) vwCl [(h0, .inr (8, [.ref q_1, .ref q_2, .null, .int 0])), (q_1, .inl (cI, 16, (.inl (fun _ => 0)))), (q_2, .inl (cI, 16, (.inl (fun _ => 0)))), (q_3, .inl (cI, 96, (.inl (fun _ => 0))))] H := hP
  have hD : va_D A [(h0, .inr (8, [.ref q_1, .ref q_2, .null, .int 0])), (q_1, .inl (cI, 16, (.inl (fun _ => 0)))), (q_2, .inl (cI, 16, (.inl (fun _ => 0)))), (q_3, .inl (cI, 96, (.inl (fun _ => 0))))] := hD
  refine W.widen (k := 3) (n := 128) (Nat.le_of_ble_eq_true rfl) (Nat.le_of_ble_eq_true rfl) ?_
  refine va_put (D := (dC, dI)) (ci := 8) (v := .ref q_3) (ty := (.array .int)) (C := RX8) (T := TX8) (N := 4) hx hb hts hiX8 tyX8 tyX8_ok nmX8 hown hK hP hD hS 0 rfl rfl 2 (by decide) (hts (.fieldLink RX8 18 "ScissorsTable$Sums" "amounts" "[I") (by decide +kernel)) (fun _ h9 => h9) rfl (by decide +kernel) rfl rfl (Nat.le_of_ble_eq_true rfl) dX8_init_25 (fun H locs hP hD hS => ?_)
  have hP : va_P (dC, dI) vwCl [(h0, .inr (8, [.ref q_1, .ref q_2, .ref q_3, .int 0])), (q_1, .inl (cI, 16, (.inl (fun _ => 0)))), (q_2, .inl (cI, 16, (.inl (fun _ => 0)))), (q_3, .inl (cI, 96, (.inl (fun _ => 0))))] H := hP
  have hD : va_D A [(h0, .inr (8, [.ref q_1, .ref q_2, .ref q_3, .int 0])), (q_1, .inl (cI, 16, (.inl (fun _ => 0)))), (q_2, .inl (cI, 16, (.inl (fun _ => 0)))), (q_3, .inl (cI, 96, (.inl (fun _ => 0))))] := hD
  have hP9 := hP.sub (ws' := [(h0, .inr (8, [.ref q_1, .ref q_2, .ref q_3, .int 0])), (q_1, .inl (cI, 16, (.inl (fun _ => 0)))), (q_2, .inl (cI, 16, (.inl (fun _ => 0)))), (q_3, .inl (cI, 96, (.inl (fun _ => 0))))]) [0, 1, 2, 3] rfl
  have hD9 := hD.sub (ws' := [(h0, .inr (8, [.ref q_1, .ref q_2, .ref q_3, .int 0])), (q_1, .inl (cI, 16, (.inl (fun _ => 0)))), (q_2, .inl (cI, 16, (.inl (fun _ => 0)))), (q_3, .inl (cI, 96, (.inl (fun _ => 0))))]) [0, 1, 2, 3] (by decide) rfl
  refine W.widen (k := 3) (n := 128) (Nat.le_of_ble_eq_true rfl) (Nat.le_of_ble_eq_true rfl) ?_
  exact W.vret hx hb hr (fun t ht hW => ⟨⟨(), rfl, trivial, q_1, q_2, q_3, by rw [ht]; exact hP9, va_K.moved hW.alike hK, hD9⟩, hS.F ht⟩) hS.2.2 dX8_init_28
set_option maxHeartbeats 4000000 in
set_option maxRecDepth 100000 in
theorem c_X3_init (l : Launch) (dC : Nat → ClassId) (dI : Nat → Nat → Nat) (cB cI cJ : ClassId) (sz : Nat) (h0 : Nat) : Met l yX3_init wsX3_init ({ frames := 1, cells := 4, slots := 27, locals := 24 }) (va_Pc [.ref h0] (fun U => U.heap.size = sz ∧ va_P (dC, dI) vwCl [(h0, .inr (3, [.int 0, .int 0, .int 0, .null, .null, .null, .null]))] U.heap ∧ va_K (dC, dI) vwCl [(cB, .byte), (cI, .int), (cJ, .long)] U ∧ va_D (fun _ => True) [(h0, .inr (3, [.int 0, .int 0, .int 0, .null, .null, .null, .null]))])) (va_Qv (fun _ : Unit => True) (fun _ t => ∃ q_1 : Nat, ∃ q_2 : Nat, ∃ q_3 : Nat, ∃ q_4 : Nat, va_P (dC, dI) vwCl [(h0, .inr (3, [.int 0, .int 0, .int 0, .ref q_1, .ref q_2, .ref q_3, .ref q_4])), (q_1, .inl (cI, 7, (.inl (fun _ => 0)))), (q_2, .inl (cI, 7, (.inl (fun _ => 0)))), (q_3, .inl (cJ, 7, (.inr (.inl (fun _ => 0))))), (q_4, .inl (cJ, 6, (.inr (.inl (fun _ => 0)))))] t.heap ∧ va_K (dC, dI) vwCl [(cB, .byte), (cI, .int), (cJ, .long)] t ∧ va_D (va_A [(h0, .inr (3, [.int 0, .int 0, .int 0, .null, .null, .null, .null]))] sz) [(h0, .inr (3, [.int 0, .int 0, .int 0, .ref q_1, .ref q_2, .ref q_3, .ref q_4])), (q_1, .inl (cI, 7, (.inl (fun _ => 0)))), (q_2, .inl (cI, 7, (.inl (fun _ => 0)))), (q_3, .inl (cJ, 7, (.inr (.inl (fun _ => 0))))), (q_4, .inl (cJ, 6, (.inr (.inl (fun _ => 0)))))]) (va_A [(h0, .inr (3, [.int 0, .int 0, .int 0, .null, .null, .null, .null]))] sz)) 4 27 (va_A [(h0, .inr (3, [.int 0, .int 0, .int 0, .null, .null, .null, .null]))] sz) := by
  refine Met.ofW (cc := cX3_init) (maxL := 1) (ret := none) (by decide) rfl ?_
  intro p e s m args below meth c s₁ B hml hv
  obtain ⟨rfl, hsz, hP, hK, hD0⟩ := hv
  have hx := B.exec
  have hb := B.bytes
  have hr := B.returns
  have hts := atoms_spec (ws := wsX3_init) B.pre
  have hown : s.vm.findClass RX3 = some m.cls := findClass_of_methodNamed B.named
  have hlocks := B.notSynchronized
  have hin : meth.name = "<init>" := (name_of_methodNamed B.named B.method).1
  have hiX3 : ∀ w ∈ u_ws RX3 TX3 7, w ∈ wsX3_init := by decide +kernel
  subst hsz
  have hD := hD0.self (sz := s.heap.size)
  generalize hAe : va_A [(h0, .inr (3, [.int 0, .int 0, .int 0, .null, .null, .null, .null]))] s.heap.size = A at hD ⊢
  have hA : ∀ q : Nat, s.heap.size ≤ q → A q := fun q h => by rw [← hAe]; exact Or.inr h
  have hS : va_S A s.heap s.heap [] := va_S.rf
  have hP : va_P (dC, dI) vwCl [(h0, .inr (3, [.int 0, .int 0, .int 0, .null, .null, .null, .null]))] s.heap := hP
  have hl := lv_entry ([.ref h0]) (n := 1) (Nat.le_of_ble_eq_true rfl)
  rw [lg_entry_eq]
  generalize (lg_sl ([.ref h0]) ++ List.replicate (1 - (lg_sl ([.ref h0])).length) Slot.unset).toArray = ls at hl ⊢
  have hl : lv_has ls 1 [(0, .ref h0)] := hl
  refine lv_aload_n hx hb dX3_init_0 rfl (lv_at hl 0 rfl) ?_
  refine W.objInit hx hb hown (hts (.methodLink RX3 3 objectInit) (by decide +kernel)) (hts (.instanceMethod objectInit) (by decide +kernel)) (hts _ (List.mem_of_getElem? (i := 3) rfl)) rfl (by rw [hml]; exact hl.1) rfl dX3_init_1 (Nat.le_of_ble_eq_true rfl) (Nat.le_of_ble_eq_true rfl) ?_
  refine W.eq (g2 := F0 m 4 ls []) rfl ?_
  refine lv_aload_n hx hb dX3_init_4 rfl (lv_at hl 0 rfl) ?_
  refine lv_bipush (v := 7) hx hb dX3_init_5 (by decide) ?_
  refine va_newa (atype := .int) (ty := .int) (N' := 7) (a0 := (7, (.inl (fun _ => 0)))) hx hb (hts (.arrayClass .int) (by decide +kernel)) rfl hK hP hD hS hA (fun _ => rfl) (by decide) (by decide) (Nat.le_of_ble_eq_true rfl) (Nat.le_of_ble_eq_true rfl) (Nat.le_of_ble_eq_true rfl) dX3_init_7 (fun q_1 cA H hKn hP hD hS => ?_)
  obtain rfl : cI = cA := nk_same hK hKn 1 rfl (fun h => h) (fun h => h)
  have hP : va_P (dC, dI) vwCl [(h0, .inr (3, [.int 0, .int 0, .int 0, .null, .null, .null, .null])), (q_1, .inl (cI, 7, (.inl (fun _ => 0))))] H := hP
  have hD : va_D A [(h0, .inr (3, [.int 0, .int 0, .int 0, .null, .null, .null, .null])), (q_1, .inl (cI, 7, (.inl (fun _ => 0))))] := hD
  refine W.widen (k := 1) (n := 7) (Nat.le_of_ble_eq_true rfl) (Nat.le_of_ble_eq_true rfl) ?_
  refine va_putF (D := (dC, dI)) (ci := 3) (v := .ref q_1) (ty := (.array .int)) (C := RX3) (T := TX3) (N := 7) hx hb hts hiX3 tyX3 tyX3_ok nmX3 hown hK hP hD hS 0 rfl rfl 3 (by decide) (hts (.fieldLink RX3 9 "ScissorsTable$Hang" "held" "[I") (by decide +kernel)) (fun _ h9 => h9) rfl hin rfl (by decide +kernel) rfl rfl (Nat.le_of_ble_eq_true rfl) dX3_init_9 (fun H locs hP hD hS => ?_)
  have hP : va_P (dC, dI) vwCl [(h0, .inr (3, [.int 0, .int 0, .int 0, .ref q_1, .null, .null, .null])), (q_1, .inl (cI, 7, (.inl (fun _ => 0))))] H := hP
  have hD : va_D A [(h0, .inr (3, [.int 0, .int 0, .int 0, .ref q_1, .null, .null, .null])), (q_1, .inl (cI, 7, (.inl (fun _ => 0))))] := hD
  refine lv_aload_n hx hb dX3_init_12 rfl (lv_at hl 0 rfl) ?_
  refine lv_bipush (v := 7) hx hb dX3_init_13 (by decide) ?_
  refine va_newa (atype := .int) (ty := .int) (N' := 7) (a0 := (7, (.inl (fun _ => 0)))) hx hb (hts (.arrayClass .int) (by decide +kernel)) rfl hK hP hD hS hA (fun _ => rfl) (by decide) (by decide) (Nat.le_of_ble_eq_true rfl) (Nat.le_of_ble_eq_true rfl) (Nat.le_of_ble_eq_true rfl) dX3_init_15 (fun q_2 cA H hKn hP hD hS => ?_)
  obtain rfl : cI = cA := nk_same hK hKn 1 rfl (fun h => h) (fun h => h)
  have hP : va_P (dC, dI) vwCl [(h0, .inr (3, [.int 0, .int 0, .int 0, .ref q_1, .null, .null, .null])), (q_1, .inl (cI, 7, (.inl (fun _ => 0)))), (q_2, .inl (cI, 7, (.inl (fun _ => 0))))] H := hP
  have hD : va_D A [(h0, .inr (3, [.int 0, .int 0, .int 0, .ref q_1, .null, .null, .null])), (q_1, .inl (cI, 7, (.inl (fun _ => 0)))), (q_2, .inl (cI, 7, (.inl (fun _ => 0))))] := hD
  refine W.widen (k := 2) (n := 14) (Nat.le_of_ble_eq_true rfl) (Nat.le_of_ble_eq_true rfl) ?_
  refine va_putF (D := (dC, dI)) (ci := 3) (v := .ref q_2) (ty := (.array .int)) (C := RX3) (T := TX3) (N := 7) hx hb hts hiX3 tyX3 tyX3_ok nmX3 hown hK hP hD hS 0 rfl rfl 4 (by decide) (hts (.fieldLink RX3 15 "ScissorsTable$Hang" "rows" "[I") (by decide +kernel)) (fun _ h9 => h9) rfl hin rfl (by decide +kernel) rfl rfl (Nat.le_of_ble_eq_true rfl) dX3_init_17 (fun H locs hP hD hS => ?_)
  have hP : va_P (dC, dI) vwCl [(h0, .inr (3, [.int 0, .int 0, .int 0, .ref q_1, .ref q_2, .null, .null])), (q_1, .inl (cI, 7, (.inl (fun _ => 0)))), (q_2, .inl (cI, 7, (.inl (fun _ => 0))))] H := hP
  have hD : va_D A [(h0, .inr (3, [.int 0, .int 0, .int 0, .ref q_1, .ref q_2, .null, .null])), (q_1, .inl (cI, 7, (.inl (fun _ => 0)))), (q_2, .inl (cI, 7, (.inl (fun _ => 0))))] := hD
  refine lv_aload_n hx hb dX3_init_20 rfl (lv_at hl 0 rfl) ?_
  refine lv_bipush (v := 7) hx hb dX3_init_21 (by decide) ?_
  refine va_newa (atype := .long) (ty := .long) (N' := 7) (a0 := (7, (.inr (.inl (fun _ => 0))))) hx hb (hts (.arrayClass .long) (by decide +kernel)) rfl hK hP hD hS hA (fun _ => rfl) (by decide) (by decide) (Nat.le_of_ble_eq_true rfl) (Nat.le_of_ble_eq_true rfl) (Nat.le_of_ble_eq_true rfl) dX3_init_23 (fun q_3 cA H hKn hP hD hS => ?_)
  obtain rfl : cJ = cA := nk_same hK hKn 2 rfl (fun h => h) (fun h => h)
  have hP : va_P (dC, dI) vwCl [(h0, .inr (3, [.int 0, .int 0, .int 0, .ref q_1, .ref q_2, .null, .null])), (q_1, .inl (cI, 7, (.inl (fun _ => 0)))), (q_2, .inl (cI, 7, (.inl (fun _ => 0)))), (q_3, .inl (cJ, 7, (.inr (.inl (fun _ => 0)))))] H := hP
  have hD : va_D A [(h0, .inr (3, [.int 0, .int 0, .int 0, .ref q_1, .ref q_2, .null, .null])), (q_1, .inl (cI, 7, (.inl (fun _ => 0)))), (q_2, .inl (cI, 7, (.inl (fun _ => 0)))), (q_3, .inl (cJ, 7, (.inr (.inl (fun _ => 0)))))] := hD
  refine W.widen (k := 3) (n := 21) (Nat.le_of_ble_eq_true rfl) (Nat.le_of_ble_eq_true rfl) ?_
  refine va_putF (D := (dC, dI)) (ci := 3) (v := .ref q_3) (ty := (.array .long)) (C := RX3) (T := TX3) (N := 7) hx hb hts hiX3 tyX3 tyX3_ok nmX3 hown hK hP hD hS 0 rfl rfl 5 (by decide) (hts (.fieldLink RX3 18 "ScissorsTable$Hang" "trial" "[J") (by decide +kernel)) (fun _ h9 => h9) rfl hin rfl (by decide +kernel) rfl rfl (Nat.le_of_ble_eq_true rfl) dX3_init_25 (fun H locs hP hD hS => ?_)
  have hP : va_P (dC, dI) vwCl [(h0, .inr (3, [.int 0, .int 0, .int 0, .ref q_1, .ref q_2, .ref q_3, .null])), (q_1, .inl (cI, 7, (.inl (fun _ => 0)))), (q_2, .inl (cI, 7, (.inl (fun _ => 0)))), (q_3, .inl (cJ, 7, (.inr (.inl (fun _ => 0)))))] H := hP
  have hD : va_D A [(h0, .inr (3, [.int 0, .int 0, .int 0, .ref q_1, .ref q_2, .ref q_3, .null])), (q_1, .inl (cI, 7, (.inl (fun _ => 0)))), (q_2, .inl (cI, 7, (.inl (fun _ => 0)))), (q_3, .inl (cJ, 7, (.inr (.inl (fun _ => 0)))))] := hD
  refine lv_aload_n hx hb dX3_init_28 rfl (lv_at hl 0 rfl) ?_
  refine lv_bipush (v := 6) hx hb dX3_init_29 (by decide) ?_
  refine va_newa (atype := .long) (ty := .long) (N' := 6) (a0 := (6, (.inr (.inl (fun _ => 0))))) hx hb (hts (.arrayClass .long) (by decide +kernel)) rfl hK hP hD hS hA (fun _ => rfl) (by decide) (by decide) (Nat.le_of_ble_eq_true rfl) (Nat.le_of_ble_eq_true rfl) (Nat.le_of_ble_eq_true rfl) dX3_init_31 (fun q_4 cA H hKn hP hD hS => ?_)
  obtain rfl : cJ = cA := nk_same hK hKn 2 rfl (fun h => h) (fun h => h)
  have hP : va_P (dC, dI) vwCl [(h0, .inr (3, [.int 0, .int 0, .int 0, .ref q_1, .ref q_2, .ref q_3, .null])), (q_1, .inl (cI, 7, (.inl (fun _ => 0)))), (q_2, .inl (cI, 7, (.inl (fun _ => 0)))), (q_3, .inl (cJ, 7, (.inr (.inl (fun _ => 0))))), (q_4, .inl (cJ, 6, (.inr (.inl (fun _ => 0)))))] H := hP
  have hD : va_D A [(h0, .inr (3, [.int 0, .int 0, .int 0, .ref q_1, .ref q_2, .ref q_3, .null])), (q_1, .inl (cI, 7, (.inl (fun _ => 0)))), (q_2, .inl (cI, 7, (.inl (fun _ => 0)))), (q_3, .inl (cJ, 7, (.inr (.inl (fun _ => 0))))), (q_4, .inl (cJ, 6, (.inr (.inl (fun _ => 0)))))] := hD
  refine W.widen (k := 4) (n := 27) (Nat.le_of_ble_eq_true rfl) (Nat.le_of_ble_eq_true rfl) ?_
  refine va_putF (D := (dC, dI)) (ci := 3) (v := .ref q_4) (ty := (.array .long)) (C := RX3) (T := TX3) (N := 7) hx hb hts hiX3 tyX3 tyX3_ok nmX3 hown hK hP hD hS 0 rfl rfl 6 (by decide) (hts (.fieldLink RX3 22 "ScissorsTable$Hang" "times" "[J") (by decide +kernel)) (fun _ h9 => h9) rfl hin rfl (by decide +kernel) rfl rfl (Nat.le_of_ble_eq_true rfl) dX3_init_33 (fun H locs hP hD hS => ?_)
  have hP : va_P (dC, dI) vwCl [(h0, .inr (3, [.int 0, .int 0, .int 0, .ref q_1, .ref q_2, .ref q_3, .ref q_4])), (q_1, .inl (cI, 7, (.inl (fun _ => 0)))), (q_2, .inl (cI, 7, (.inl (fun _ => 0)))), (q_3, .inl (cJ, 7, (.inr (.inl (fun _ => 0))))), (q_4, .inl (cJ, 6, (.inr (.inl (fun _ => 0)))))] H := hP
  have hD : va_D A [(h0, .inr (3, [.int 0, .int 0, .int 0, .ref q_1, .ref q_2, .ref q_3, .ref q_4])), (q_1, .inl (cI, 7, (.inl (fun _ => 0)))), (q_2, .inl (cI, 7, (.inl (fun _ => 0)))), (q_3, .inl (cJ, 7, (.inr (.inl (fun _ => 0))))), (q_4, .inl (cJ, 6, (.inr (.inl (fun _ => 0)))))] := hD
  have hP9 := hP.sub (ws' := [(h0, .inr (3, [.int 0, .int 0, .int 0, .ref q_1, .ref q_2, .ref q_3, .ref q_4])), (q_1, .inl (cI, 7, (.inl (fun _ => 0)))), (q_2, .inl (cI, 7, (.inl (fun _ => 0)))), (q_3, .inl (cJ, 7, (.inr (.inl (fun _ => 0))))), (q_4, .inl (cJ, 6, (.inr (.inl (fun _ => 0)))))]) [0, 1, 2, 3, 4] rfl
  have hD9 := hD.sub (ws' := [(h0, .inr (3, [.int 0, .int 0, .int 0, .ref q_1, .ref q_2, .ref q_3, .ref q_4])), (q_1, .inl (cI, 7, (.inl (fun _ => 0)))), (q_2, .inl (cI, 7, (.inl (fun _ => 0)))), (q_3, .inl (cJ, 7, (.inr (.inl (fun _ => 0))))), (q_4, .inl (cJ, 6, (.inr (.inl (fun _ => 0)))))]) [0, 1, 2, 3, 4] (by decide) rfl
  refine W.widen (k := 4) (n := 27) (Nat.le_of_ble_eq_true rfl) (Nat.le_of_ble_eq_true rfl) ?_
  exact W.vret hx hb hr (fun t ht hW => ⟨⟨(), rfl, trivial, q_1, q_2, q_3, q_4, by rw [ht]; exact hP9, va_K.moved hW.alike hK, hD9⟩, hS.F ht⟩) hS.2.2 dX3_init_36
set_option maxHeartbeats 4000000 in
set_option maxRecDepth 100000 in
theorem c_X4_init (l : Launch) (dC : Nat → ClassId) (dI : Nat → Nat → Nat) (cB cI cJ : ClassId) (sz : Nat) (h0 : Nat) : Met l yX4_init wsX4_init ({ frames := 1, cells := 4, slots := 26, locals := 24 }) (va_Pc [.ref h0] (fun U => U.heap.size = sz ∧ va_P (dC, dI) vwCl [(h0, .inr (4, [.null, .null, .null, .int 0, .int 0, .int 0, .null]))] U.heap ∧ va_K (dC, dI) vwCl [(cB, .byte), (cI, .int), (cJ, .long)] U ∧ va_D (fun _ => True) [(h0, .inr (4, [.null, .null, .null, .int 0, .int 0, .int 0, .null]))])) (va_Qv (fun _ : Unit => True) (fun _ t => ∃ q_1 : Nat, ∃ q_2 : Nat, ∃ q_3 : Nat, ∃ q_4 : Nat, va_P (dC, dI) vwCl [(h0, .inr (4, [.ref q_1, .ref q_2, .ref q_3, .int 0, .int 0, .int 0, .ref q_4])), (q_1, .inl (cI, 16, (.inl (fun _ => 0)))), (q_2, .inl (cI, 3, (.inl (fun _ => 0)))), (q_3, .inl (cI, 3, (.inl (fun _ => 0)))), (q_4, .inl (cI, 4, (.inl (fun _ => 0))))] t.heap ∧ va_K (dC, dI) vwCl [(cB, .byte), (cI, .int), (cJ, .long)] t ∧ va_D (va_A [(h0, .inr (4, [.null, .null, .null, .int 0, .int 0, .int 0, .null]))] sz) [(h0, .inr (4, [.ref q_1, .ref q_2, .ref q_3, .int 0, .int 0, .int 0, .ref q_4])), (q_1, .inl (cI, 16, (.inl (fun _ => 0)))), (q_2, .inl (cI, 3, (.inl (fun _ => 0)))), (q_3, .inl (cI, 3, (.inl (fun _ => 0)))), (q_4, .inl (cI, 4, (.inl (fun _ => 0))))]) (va_A [(h0, .inr (4, [.null, .null, .null, .int 0, .int 0, .int 0, .null]))] sz)) 4 26 (va_A [(h0, .inr (4, [.null, .null, .null, .int 0, .int 0, .int 0, .null]))] sz) := by
  refine Met.ofW (cc := cX4_init) (maxL := 1) (ret := none) (by decide) rfl ?_
  intro p e s m args below meth c s₁ B hml hv
  obtain ⟨rfl, hsz, hP, hK, hD0⟩ := hv
  have hx := B.exec
  have hb := B.bytes
  have hr := B.returns
  have hts := atoms_spec (ws := wsX4_init) B.pre
  have hown : s.vm.findClass RX4 = some m.cls := findClass_of_methodNamed B.named
  have hlocks := B.notSynchronized
  have hin : meth.name = "<init>" := (name_of_methodNamed B.named B.method).1
  have hiX4 : ∀ w ∈ u_ws RX4 TX4 7, w ∈ wsX4_init := by decide +kernel
  subst hsz
  have hD := hD0.self (sz := s.heap.size)
  generalize hAe : va_A [(h0, .inr (4, [.null, .null, .null, .int 0, .int 0, .int 0, .null]))] s.heap.size = A at hD ⊢
  have hA : ∀ q : Nat, s.heap.size ≤ q → A q := fun q h => by rw [← hAe]; exact Or.inr h
  have hS : va_S A s.heap s.heap [] := va_S.rf
  have hP : va_P (dC, dI) vwCl [(h0, .inr (4, [.null, .null, .null, .int 0, .int 0, .int 0, .null]))] s.heap := hP
  have hl := lv_entry ([.ref h0]) (n := 1) (Nat.le_of_ble_eq_true rfl)
  rw [lg_entry_eq]
  generalize (lg_sl ([.ref h0]) ++ List.replicate (1 - (lg_sl ([.ref h0])).length) Slot.unset).toArray = ls at hl ⊢
  have hl : lv_has ls 1 [(0, .ref h0)] := hl
  refine lv_aload_n hx hb dX4_init_0 rfl (lv_at hl 0 rfl) ?_
  refine W.objInit hx hb hown (hts (.methodLink RX4 3 objectInit) (by decide +kernel)) (hts (.instanceMethod objectInit) (by decide +kernel)) (hts _ (List.mem_of_getElem? (i := 3) rfl)) rfl (by rw [hml]; exact hl.1) rfl dX4_init_1 (Nat.le_of_ble_eq_true rfl) (Nat.le_of_ble_eq_true rfl) ?_
  refine W.eq (g2 := F0 m 4 ls []) rfl ?_
  refine lv_aload_n hx hb dX4_init_4 rfl (lv_at hl 0 rfl) ?_
  refine lv_bipush (v := 16) hx hb dX4_init_5 (by decide) ?_
  refine va_newa (atype := .int) (ty := .int) (N' := 16) (a0 := (16, (.inl (fun _ => 0)))) hx hb (hts (.arrayClass .int) (by decide +kernel)) rfl hK hP hD hS hA (fun _ => rfl) (by decide) (by decide) (Nat.le_of_ble_eq_true rfl) (Nat.le_of_ble_eq_true rfl) (Nat.le_of_ble_eq_true rfl) dX4_init_7 (fun q_1 cA H hKn hP hD hS => ?_)
  obtain rfl : cI = cA := nk_same hK hKn 1 rfl (fun h => h) (fun h => h)
  have hP : va_P (dC, dI) vwCl [(h0, .inr (4, [.null, .null, .null, .int 0, .int 0, .int 0, .null])), (q_1, .inl (cI, 16, (.inl (fun _ => 0))))] H := hP
  have hD : va_D A [(h0, .inr (4, [.null, .null, .null, .int 0, .int 0, .int 0, .null])), (q_1, .inl (cI, 16, (.inl (fun _ => 0))))] := hD
  refine W.widen (k := 1) (n := 16) (Nat.le_of_ble_eq_true rfl) (Nat.le_of_ble_eq_true rfl) ?_
  refine va_putF (D := (dC, dI)) (ci := 4) (v := .ref q_1) (ty := (.array .int)) (C := RX4) (T := TX4) (N := 7) hx hb hts hiX4 tyX4 tyX4_ok nmX4 hown hK hP hD hS 0 rfl rfl 0 (by decide) (hts (.fieldLink RX4 9 "ScissorsTable$Inside" "planes" "[I") (by decide +kernel)) (fun _ h9 => h9) rfl hin rfl (by decide +kernel) rfl rfl (Nat.le_of_ble_eq_true rfl) dX4_init_9 (fun H locs hP hD hS => ?_)
  have hP : va_P (dC, dI) vwCl [(h0, .inr (4, [.ref q_1, .null, .null, .int 0, .int 0, .int 0, .null])), (q_1, .inl (cI, 16, (.inl (fun _ => 0))))] H := hP
  have hD : va_D A [(h0, .inr (4, [.ref q_1, .null, .null, .int 0, .int 0, .int 0, .null])), (q_1, .inl (cI, 16, (.inl (fun _ => 0))))] := hD
  refine lv_aload_n hx hb dX4_init_12 rfl (lv_at hl 0 rfl) ?_
  refine lv_iconst (v := 3) hx hb dX4_init_13 (by decide) ?_
  refine va_newa (atype := .int) (ty := .int) (N' := 3) (a0 := (3, (.inl (fun _ => 0)))) hx hb (hts (.arrayClass .int) (by decide +kernel)) rfl hK hP hD hS hA (fun _ => rfl) (by decide) (by decide) (Nat.le_of_ble_eq_true rfl) (Nat.le_of_ble_eq_true rfl) (Nat.le_of_ble_eq_true rfl) dX4_init_14 (fun q_2 cA H hKn hP hD hS => ?_)
  obtain rfl : cI = cA := nk_same hK hKn 1 rfl (fun h => h) (fun h => h)
  have hP : va_P (dC, dI) vwCl [(h0, .inr (4, [.ref q_1, .null, .null, .int 0, .int 0, .int 0, .null])), (q_1, .inl (cI, 16, (.inl (fun _ => 0)))), (q_2, .inl (cI, 3, (.inl (fun _ => 0))))] H := hP
  have hD : va_D A [(h0, .inr (4, [.ref q_1, .null, .null, .int 0, .int 0, .int 0, .null])), (q_1, .inl (cI, 16, (.inl (fun _ => 0)))), (q_2, .inl (cI, 3, (.inl (fun _ => 0))))] := hD
  refine W.widen (k := 2) (n := 19) (Nat.le_of_ble_eq_true rfl) (Nat.le_of_ble_eq_true rfl) ?_
  refine va_putF (D := (dC, dI)) (ci := 4) (v := .ref q_2) (ty := (.array .int)) (C := RX4) (T := TX4) (N := 7) hx hb hts hiX4 tyX4 tyX4_ok nmX4 hown hK hP hD hS 0 rfl rfl 1 (by decide) (hts (.fieldLink RX4 15 "ScissorsTable$Inside" "least" "[I") (by decide +kernel)) (fun _ h9 => h9) rfl hin rfl (by decide +kernel) rfl rfl (Nat.le_of_ble_eq_true rfl) dX4_init_16 (fun H locs hP hD hS => ?_)
  have hP : va_P (dC, dI) vwCl [(h0, .inr (4, [.ref q_1, .ref q_2, .null, .int 0, .int 0, .int 0, .null])), (q_1, .inl (cI, 16, (.inl (fun _ => 0)))), (q_2, .inl (cI, 3, (.inl (fun _ => 0))))] H := hP
  have hD : va_D A [(h0, .inr (4, [.ref q_1, .ref q_2, .null, .int 0, .int 0, .int 0, .null])), (q_1, .inl (cI, 16, (.inl (fun _ => 0)))), (q_2, .inl (cI, 3, (.inl (fun _ => 0))))] := hD
  refine lv_aload_n hx hb dX4_init_19 rfl (lv_at hl 0 rfl) ?_
  refine lv_iconst (v := 3) hx hb dX4_init_20 (by decide) ?_
  refine va_newa (atype := .int) (ty := .int) (N' := 3) (a0 := (3, (.inl (fun _ => 0)))) hx hb (hts (.arrayClass .int) (by decide +kernel)) rfl hK hP hD hS hA (fun _ => rfl) (by decide) (by decide) (Nat.le_of_ble_eq_true rfl) (Nat.le_of_ble_eq_true rfl) (Nat.le_of_ble_eq_true rfl) dX4_init_21 (fun q_3 cA H hKn hP hD hS => ?_)
  obtain rfl : cI = cA := nk_same hK hKn 1 rfl (fun h => h) (fun h => h)
  have hP : va_P (dC, dI) vwCl [(h0, .inr (4, [.ref q_1, .ref q_2, .null, .int 0, .int 0, .int 0, .null])), (q_1, .inl (cI, 16, (.inl (fun _ => 0)))), (q_2, .inl (cI, 3, (.inl (fun _ => 0)))), (q_3, .inl (cI, 3, (.inl (fun _ => 0))))] H := hP
  have hD : va_D A [(h0, .inr (4, [.ref q_1, .ref q_2, .null, .int 0, .int 0, .int 0, .null])), (q_1, .inl (cI, 16, (.inl (fun _ => 0)))), (q_2, .inl (cI, 3, (.inl (fun _ => 0)))), (q_3, .inl (cI, 3, (.inl (fun _ => 0))))] := hD
  refine W.widen (k := 3) (n := 22) (Nat.le_of_ble_eq_true rfl) (Nat.le_of_ble_eq_true rfl) ?_
  refine va_putF (D := (dC, dI)) (ci := 4) (v := .ref q_3) (ty := (.array .int)) (C := RX4) (T := TX4) (N := 7) hx hb hts hiX4 tyX4 tyX4_ok nmX4 hown hK hP hD hS 0 rfl rfl 2 (by decide) (hts (.fieldLink RX4 18 "ScissorsTable$Inside" "greatest" "[I") (by decide +kernel)) (fun _ h9 => h9) rfl hin rfl (by decide +kernel) rfl rfl (Nat.le_of_ble_eq_true rfl) dX4_init_23 (fun H locs hP hD hS => ?_)
  have hP : va_P (dC, dI) vwCl [(h0, .inr (4, [.ref q_1, .ref q_2, .ref q_3, .int 0, .int 0, .int 0, .null])), (q_1, .inl (cI, 16, (.inl (fun _ => 0)))), (q_2, .inl (cI, 3, (.inl (fun _ => 0)))), (q_3, .inl (cI, 3, (.inl (fun _ => 0))))] H := hP
  have hD : va_D A [(h0, .inr (4, [.ref q_1, .ref q_2, .ref q_3, .int 0, .int 0, .int 0, .null])), (q_1, .inl (cI, 16, (.inl (fun _ => 0)))), (q_2, .inl (cI, 3, (.inl (fun _ => 0)))), (q_3, .inl (cI, 3, (.inl (fun _ => 0))))] := hD
  refine lv_aload_n hx hb dX4_init_26 rfl (lv_at hl 0 rfl) ?_
  refine lv_iconst (v := 4) hx hb dX4_init_27 (by decide) ?_
  refine va_newa (atype := .int) (ty := .int) (N' := 4) (a0 := (4, (.inl (fun _ => 0)))) hx hb (hts (.arrayClass .int) (by decide +kernel)) rfl hK hP hD hS hA (fun _ => rfl) (by decide) (by decide) (Nat.le_of_ble_eq_true rfl) (Nat.le_of_ble_eq_true rfl) (Nat.le_of_ble_eq_true rfl) dX4_init_28 (fun q_4 cA H hKn hP hD hS => ?_)
  obtain rfl : cI = cA := nk_same hK hKn 1 rfl (fun h => h) (fun h => h)
  have hP : va_P (dC, dI) vwCl [(h0, .inr (4, [.ref q_1, .ref q_2, .ref q_3, .int 0, .int 0, .int 0, .null])), (q_1, .inl (cI, 16, (.inl (fun _ => 0)))), (q_2, .inl (cI, 3, (.inl (fun _ => 0)))), (q_3, .inl (cI, 3, (.inl (fun _ => 0)))), (q_4, .inl (cI, 4, (.inl (fun _ => 0))))] H := hP
  have hD : va_D A [(h0, .inr (4, [.ref q_1, .ref q_2, .ref q_3, .int 0, .int 0, .int 0, .null])), (q_1, .inl (cI, 16, (.inl (fun _ => 0)))), (q_2, .inl (cI, 3, (.inl (fun _ => 0)))), (q_3, .inl (cI, 3, (.inl (fun _ => 0)))), (q_4, .inl (cI, 4, (.inl (fun _ => 0))))] := hD
  refine W.widen (k := 4) (n := 26) (Nat.le_of_ble_eq_true rfl) (Nat.le_of_ble_eq_true rfl) ?_
  refine va_putF (D := (dC, dI)) (ci := 4) (v := .ref q_4) (ty := (.array .int)) (C := RX4) (T := TX4) (N := 7) hx hb hts hiX4 tyX4 tyX4_ok nmX4 hown hK hP hD hS 0 rfl rfl 6 (by decide) (hts (.fieldLink RX4 21 "ScissorsTable$Inside" "best" "[I") (by decide +kernel)) (fun _ h9 => h9) rfl hin rfl (by decide +kernel) rfl rfl (Nat.le_of_ble_eq_true rfl) dX4_init_30 (fun H locs hP hD hS => ?_)
  have hP : va_P (dC, dI) vwCl [(h0, .inr (4, [.ref q_1, .ref q_2, .ref q_3, .int 0, .int 0, .int 0, .ref q_4])), (q_1, .inl (cI, 16, (.inl (fun _ => 0)))), (q_2, .inl (cI, 3, (.inl (fun _ => 0)))), (q_3, .inl (cI, 3, (.inl (fun _ => 0)))), (q_4, .inl (cI, 4, (.inl (fun _ => 0))))] H := hP
  have hD : va_D A [(h0, .inr (4, [.ref q_1, .ref q_2, .ref q_3, .int 0, .int 0, .int 0, .ref q_4])), (q_1, .inl (cI, 16, (.inl (fun _ => 0)))), (q_2, .inl (cI, 3, (.inl (fun _ => 0)))), (q_3, .inl (cI, 3, (.inl (fun _ => 0)))), (q_4, .inl (cI, 4, (.inl (fun _ => 0))))] := hD
  have hP9 := hP.sub (ws' := [(h0, .inr (4, [.ref q_1, .ref q_2, .ref q_3, .int 0, .int 0, .int 0, .ref q_4])), (q_1, .inl (cI, 16, (.inl (fun _ => 0)))), (q_2, .inl (cI, 3, (.inl (fun _ => 0)))), (q_3, .inl (cI, 3, (.inl (fun _ => 0)))), (q_4, .inl (cI, 4, (.inl (fun _ => 0))))]) [0, 1, 2, 3, 4] rfl
  have hD9 := hD.sub (ws' := [(h0, .inr (4, [.ref q_1, .ref q_2, .ref q_3, .int 0, .int 0, .int 0, .ref q_4])), (q_1, .inl (cI, 16, (.inl (fun _ => 0)))), (q_2, .inl (cI, 3, (.inl (fun _ => 0)))), (q_3, .inl (cI, 3, (.inl (fun _ => 0)))), (q_4, .inl (cI, 4, (.inl (fun _ => 0))))]) [0, 1, 2, 3, 4] (by decide) rfl
  refine W.widen (k := 4) (n := 26) (Nat.le_of_ble_eq_true rfl) (Nat.le_of_ble_eq_true rfl) ?_
  exact W.vret hx hb hr (fun t ht hW => ⟨⟨(), rfl, trivial, q_1, q_2, q_3, q_4, by rw [ht]; exact hP9, va_K.moved hW.alike hK, hD9⟩, hS.F ht⟩) hS.2.2 dX4_init_33
set_option maxHeartbeats 4000000 in
set_option maxRecDepth 100000 in
theorem c_X7_init (l : Launch) (dC : Nat → ClassId) (dI : Nat → Nat → Nat) (cB cI cJ : ClassId) (sz : Nat) (h0 : Nat) : Met l yX7_init wsX7_init ({ frames := 1, cells := 8, slots := 3936, locals := 24 }) (va_Pc [.ref h0] (fun U => U.heap.size = sz ∧ va_P (dC, dI) vwCl [(h0, .inr (7, [.int 0, .null, .null, .null, .null, .null, .null, .null, .int 0, .null]))] U.heap ∧ va_K (dC, dI) vwCl [(cB, .byte), (cI, .int), (cJ, .long)] U ∧ va_D (fun _ => True) [(h0, .inr (7, [.int 0, .null, .null, .null, .null, .null, .null, .null, .int 0, .null]))])) (va_Qv (fun _ : Unit => True) (fun _ t => ∃ q_1 : Nat, ∃ q_2 : Nat, ∃ q_3 : Nat, ∃ q_4 : Nat, ∃ q_5 : Nat, ∃ q_6 : Nat, ∃ q_7 : Nat, ∃ q_8 : Nat, va_P (dC, dI) vwCl [(h0, .inr (7, [.int (-1), .ref q_1, .ref q_2, .ref q_3, .ref q_4, .ref q_5, .ref q_6, .ref q_7, .int 0, .ref q_8])), (q_1, .inl (cI, 576, (.inl (fun _ => 0)))), (q_2, .inl (cI, 3, (.inl (fun _ => 0)))), (q_3, .inl (cI, 3, (.inl (fun _ => 0)))), (q_4, .inl (cI, 3, (.inl (fun _ => 0)))), (q_5, .inl (cI, 576, (.inl (fun _ => 0)))), (q_6, .inl (cI, 576, (.inl (fun _ => 0)))), (q_7, .inl (cI, 576, (.inl (fun _ => 0)))), (q_8, .inl (cJ, 1623, (.inr (.inl (fun _ => 0)))))] t.heap ∧ va_K (dC, dI) vwCl [(cB, .byte), (cI, .int), (cJ, .long)] t ∧ va_D (va_A [(h0, .inr (7, [.int 0, .null, .null, .null, .null, .null, .null, .null, .int 0, .null]))] sz) [(h0, .inr (7, [.int (-1), .ref q_1, .ref q_2, .ref q_3, .ref q_4, .ref q_5, .ref q_6, .ref q_7, .int 0, .ref q_8])), (q_1, .inl (cI, 576, (.inl (fun _ => 0)))), (q_2, .inl (cI, 3, (.inl (fun _ => 0)))), (q_3, .inl (cI, 3, (.inl (fun _ => 0)))), (q_4, .inl (cI, 3, (.inl (fun _ => 0)))), (q_5, .inl (cI, 576, (.inl (fun _ => 0)))), (q_6, .inl (cI, 576, (.inl (fun _ => 0)))), (q_7, .inl (cI, 576, (.inl (fun _ => 0)))), (q_8, .inl (cJ, 1623, (.inr (.inl (fun _ => 0)))))]) (va_A [(h0, .inr (7, [.int 0, .null, .null, .null, .null, .null, .null, .null, .int 0, .null]))] sz)) 8 3936 (va_A [(h0, .inr (7, [.int 0, .null, .null, .null, .null, .null, .null, .null, .int 0, .null]))] sz) := by
  refine Met.ofW (cc := cX7_init) (maxL := 1) (ret := none) (by decide) rfl ?_
  intro p e s m args below meth c s₁ B hml hv
  obtain ⟨rfl, hsz, hP, hK, hD0⟩ := hv
  have hx := B.exec
  have hb := B.bytes
  have hr := B.returns
  have hts := atoms_spec (ws := wsX7_init) B.pre
  have hown : s.vm.findClass RX7 = some m.cls := findClass_of_methodNamed B.named
  have hlocks := B.notSynchronized
  have hin : meth.name = "<init>" := (name_of_methodNamed B.named B.method).1
  have hiX7 : ∀ w ∈ u_ws RX7 TX7 10, w ∈ wsX7_init := by decide +kernel
  subst hsz
  have hD := hD0.self (sz := s.heap.size)
  generalize hAe : va_A [(h0, .inr (7, [.int 0, .null, .null, .null, .null, .null, .null, .null, .int 0, .null]))] s.heap.size = A at hD ⊢
  have hA : ∀ q : Nat, s.heap.size ≤ q → A q := fun q h => by rw [← hAe]; exact Or.inr h
  have hS : va_S A s.heap s.heap [] := va_S.rf
  have hP : va_P (dC, dI) vwCl [(h0, .inr (7, [.int 0, .null, .null, .null, .null, .null, .null, .null, .int 0, .null]))] s.heap := hP
  have hl := lv_entry ([.ref h0]) (n := 1) (Nat.le_of_ble_eq_true rfl)
  rw [lg_entry_eq]
  generalize (lg_sl ([.ref h0]) ++ List.replicate (1 - (lg_sl ([.ref h0])).length) Slot.unset).toArray = ls at hl ⊢
  have hl : lv_has ls 1 [(0, .ref h0)] := hl
  refine lv_aload_n hx hb dX7_init_0 rfl (lv_at hl 0 rfl) ?_
  refine W.objInit hx hb hown (hts (.methodLink RX7 5 objectInit) (by decide +kernel)) (hts (.instanceMethod objectInit) (by decide +kernel)) (hts _ (List.mem_of_getElem? (i := 3) rfl)) rfl (by rw [hml]; exact hl.1) rfl dX7_init_1 (Nat.le_of_ble_eq_true rfl) (Nat.le_of_ble_eq_true rfl) ?_
  refine W.eq (g2 := F0 m 4 ls []) rfl ?_
  refine lv_aload_n hx hb dX7_init_4 rfl (lv_at hl 0 rfl) ?_
  refine lv_iconst (v := (-1)) hx hb dX7_init_5 (by decide) ?_
  refine va_put (D := (dC, dI)) (ci := 7) (v := .int (-1)) (ty := .int) (C := RX7) (T := TX7) (N := 10) hx hb hts hiX7 tyX7 tyX7_ok nmX7 hown hK hP hD hS 0 rfl rfl 0 (by decide) (hts (.fieldLink RX7 11 "ScissorsTable$Stairs" "steps" "I") (by decide +kernel)) (fun _ h9 => h9) rfl (by decide +kernel) rfl rfl (Nat.le_of_ble_eq_true rfl) dX7_init_6 (fun H locs hP hD hS => ?_)
  have hP : va_P (dC, dI) vwCl [(h0, .inr (7, [.int (-1), .null, .null, .null, .null, .null, .null, .null, .int 0, .null]))] H := hP
  have hD : va_D A [(h0, .inr (7, [.int (-1), .null, .null, .null, .null, .null, .null, .null, .int 0, .null]))] := hD
  refine lv_aload_n hx hb dX7_init_9 rfl (lv_at hl 0 rfl) ?_
  refine lv_sipush (v := 576) hx hb dX7_init_10 (by decide) ?_
  refine va_newa (atype := .int) (ty := .int) (N' := 576) (a0 := (576, (.inl (fun _ => 0)))) hx hb (hts (.arrayClass .int) (by decide +kernel)) rfl hK hP hD hS hA (fun _ => rfl) (by decide) (by decide) (Nat.le_of_ble_eq_true rfl) (Nat.le_of_ble_eq_true rfl) (Nat.le_of_ble_eq_true rfl) dX7_init_13 (fun q_1 cA H hKn hP hD hS => ?_)
  obtain rfl : cI = cA := nk_same hK hKn 1 rfl (fun h => h) (fun h => h)
  have hP : va_P (dC, dI) vwCl [(h0, .inr (7, [.int (-1), .null, .null, .null, .null, .null, .null, .null, .int 0, .null])), (q_1, .inl (cI, 576, (.inl (fun _ => 0))))] H := hP
  have hD : va_D A [(h0, .inr (7, [.int (-1), .null, .null, .null, .null, .null, .null, .null, .int 0, .null])), (q_1, .inl (cI, 576, (.inl (fun _ => 0))))] := hD
  refine W.widen (k := 1) (n := 576) (Nat.le_of_ble_eq_true rfl) (Nat.le_of_ble_eq_true rfl) ?_
  refine va_putF (D := (dC, dI)) (ci := 7) (v := .ref q_1) (ty := (.array .int)) (C := RX7) (T := TX7) (N := 10) hx hb hts hiX7 tyX7 tyX7_ok nmX7 hown hK hP hD hS 0 rfl rfl 1 (by decide) (hts (.fieldLink RX7 15 "ScissorsTable$Stairs" "labels" "[I") (by decide +kernel)) (fun _ h9 => h9) rfl hin rfl (by decide +kernel) rfl rfl (Nat.le_of_ble_eq_true rfl) dX7_init_15 (fun H locs hP hD hS => ?_)
  have hP : va_P (dC, dI) vwCl [(h0, .inr (7, [.int (-1), .ref q_1, .null, .null, .null, .null, .null, .null, .int 0, .null])), (q_1, .inl (cI, 576, (.inl (fun _ => 0))))] H := hP
  have hD : va_D A [(h0, .inr (7, [.int (-1), .ref q_1, .null, .null, .null, .null, .null, .null, .int 0, .null])), (q_1, .inl (cI, 576, (.inl (fun _ => 0))))] := hD
  refine lv_aload_n hx hb dX7_init_18 rfl (lv_at hl 0 rfl) ?_
  refine lv_iconst (v := 3) hx hb dX7_init_19 (by decide) ?_
  refine va_newa (atype := .int) (ty := .int) (N' := 3) (a0 := (3, (.inl (fun _ => 0)))) hx hb (hts (.arrayClass .int) (by decide +kernel)) rfl hK hP hD hS hA (fun _ => rfl) (by decide) (by decide) (Nat.le_of_ble_eq_true rfl) (Nat.le_of_ble_eq_true rfl) (Nat.le_of_ble_eq_true rfl) dX7_init_20 (fun q_2 cA H hKn hP hD hS => ?_)
  obtain rfl : cI = cA := nk_same hK hKn 1 rfl (fun h => h) (fun h => h)
  have hP : va_P (dC, dI) vwCl [(h0, .inr (7, [.int (-1), .ref q_1, .null, .null, .null, .null, .null, .null, .int 0, .null])), (q_1, .inl (cI, 576, (.inl (fun _ => 0)))), (q_2, .inl (cI, 3, (.inl (fun _ => 0))))] H := hP
  have hD : va_D A [(h0, .inr (7, [.int (-1), .ref q_1, .null, .null, .null, .null, .null, .null, .int 0, .null])), (q_1, .inl (cI, 576, (.inl (fun _ => 0)))), (q_2, .inl (cI, 3, (.inl (fun _ => 0))))] := hD
  refine W.widen (k := 2) (n := 579) (Nat.le_of_ble_eq_true rfl) (Nat.le_of_ble_eq_true rfl) ?_
  refine va_putF (D := (dC, dI)) (ci := 7) (v := .ref q_2) (ty := (.array .int)) (C := RX7) (T := TX7) (N := 10) hx hb hts hiX7 tyX7 tyX7_ok nmX7 hown hK hP hD hS 0 rfl rfl 2 (by decide) (hts (.fieldLink RX7 19 "ScissorsTable$Stairs" "sides" "[I") (by decide +kernel)) (fun _ h9 => h9) rfl hin rfl (by decide +kernel) rfl rfl (Nat.le_of_ble_eq_true rfl) dX7_init_22 (fun H locs hP hD hS => ?_)
  have hP : va_P (dC, dI) vwCl [(h0, .inr (7, [.int (-1), .ref q_1, .ref q_2, .null, .null, .null, .null, .null, .int 0, .null])), (q_1, .inl (cI, 576, (.inl (fun _ => 0)))), (q_2, .inl (cI, 3, (.inl (fun _ => 0))))] H := hP
  have hD : va_D A [(h0, .inr (7, [.int (-1), .ref q_1, .ref q_2, .null, .null, .null, .null, .null, .int 0, .null])), (q_1, .inl (cI, 576, (.inl (fun _ => 0)))), (q_2, .inl (cI, 3, (.inl (fun _ => 0))))] := hD
  refine lv_aload_n hx hb dX7_init_25 rfl (lv_at hl 0 rfl) ?_
  refine lv_iconst (v := 3) hx hb dX7_init_26 (by decide) ?_
  refine va_newa (atype := .int) (ty := .int) (N' := 3) (a0 := (3, (.inl (fun _ => 0)))) hx hb (hts (.arrayClass .int) (by decide +kernel)) rfl hK hP hD hS hA (fun _ => rfl) (by decide) (by decide) (Nat.le_of_ble_eq_true rfl) (Nat.le_of_ble_eq_true rfl) (Nat.le_of_ble_eq_true rfl) dX7_init_27 (fun q_3 cA H hKn hP hD hS => ?_)
  obtain rfl : cI = cA := nk_same hK hKn 1 rfl (fun h => h) (fun h => h)
  have hP : va_P (dC, dI) vwCl [(h0, .inr (7, [.int (-1), .ref q_1, .ref q_2, .null, .null, .null, .null, .null, .int 0, .null])), (q_1, .inl (cI, 576, (.inl (fun _ => 0)))), (q_2, .inl (cI, 3, (.inl (fun _ => 0)))), (q_3, .inl (cI, 3, (.inl (fun _ => 0))))] H := hP
  have hD : va_D A [(h0, .inr (7, [.int (-1), .ref q_1, .ref q_2, .null, .null, .null, .null, .null, .int 0, .null])), (q_1, .inl (cI, 576, (.inl (fun _ => 0)))), (q_2, .inl (cI, 3, (.inl (fun _ => 0)))), (q_3, .inl (cI, 3, (.inl (fun _ => 0))))] := hD
  refine W.widen (k := 3) (n := 582) (Nat.le_of_ble_eq_true rfl) (Nat.le_of_ble_eq_true rfl) ?_
  refine va_putF (D := (dC, dI)) (ci := 7) (v := .ref q_3) (ty := (.array .int)) (C := RX7) (T := TX7) (N := 10) hx hb hts hiX7 tyX7 tyX7_ok nmX7 hown hK hP hD hS 0 rfl rfl 3 (by decide) (hts (.fieldLink RX7 22 "ScissorsTable$Stairs" "spot" "[I") (by decide +kernel)) (fun _ h9 => h9) rfl hin rfl (by decide +kernel) rfl rfl (Nat.le_of_ble_eq_true rfl) dX7_init_29 (fun H locs hP hD hS => ?_)
  have hP : va_P (dC, dI) vwCl [(h0, .inr (7, [.int (-1), .ref q_1, .ref q_2, .ref q_3, .null, .null, .null, .null, .int 0, .null])), (q_1, .inl (cI, 576, (.inl (fun _ => 0)))), (q_2, .inl (cI, 3, (.inl (fun _ => 0)))), (q_3, .inl (cI, 3, (.inl (fun _ => 0))))] H := hP
  have hD : va_D A [(h0, .inr (7, [.int (-1), .ref q_1, .ref q_2, .ref q_3, .null, .null, .null, .null, .int 0, .null])), (q_1, .inl (cI, 576, (.inl (fun _ => 0)))), (q_2, .inl (cI, 3, (.inl (fun _ => 0)))), (q_3, .inl (cI, 3, (.inl (fun _ => 0))))] := hD
  refine lv_aload_n hx hb dX7_init_32 rfl (lv_at hl 0 rfl) ?_
  refine lv_iconst (v := 3) hx hb dX7_init_33 (by decide) ?_
  refine va_newa (atype := .int) (ty := .int) (N' := 3) (a0 := (3, (.inl (fun _ => 0)))) hx hb (hts (.arrayClass .int) (by decide +kernel)) rfl hK hP hD hS hA (fun _ => rfl) (by decide) (by decide) (Nat.le_of_ble_eq_true rfl) (Nat.le_of_ble_eq_true rfl) (Nat.le_of_ble_eq_true rfl) dX7_init_34 (fun q_4 cA H hKn hP hD hS => ?_)
  obtain rfl : cI = cA := nk_same hK hKn 1 rfl (fun h => h) (fun h => h)
  have hP : va_P (dC, dI) vwCl [(h0, .inr (7, [.int (-1), .ref q_1, .ref q_2, .ref q_3, .null, .null, .null, .null, .int 0, .null])), (q_1, .inl (cI, 576, (.inl (fun _ => 0)))), (q_2, .inl (cI, 3, (.inl (fun _ => 0)))), (q_3, .inl (cI, 3, (.inl (fun _ => 0)))), (q_4, .inl (cI, 3, (.inl (fun _ => 0))))] H := hP
  have hD : va_D A [(h0, .inr (7, [.int (-1), .ref q_1, .ref q_2, .ref q_3, .null, .null, .null, .null, .int 0, .null])), (q_1, .inl (cI, 576, (.inl (fun _ => 0)))), (q_2, .inl (cI, 3, (.inl (fun _ => 0)))), (q_3, .inl (cI, 3, (.inl (fun _ => 0)))), (q_4, .inl (cI, 3, (.inl (fun _ => 0))))] := hD
  refine W.widen (k := 4) (n := 585) (Nat.le_of_ble_eq_true rfl) (Nat.le_of_ble_eq_true rfl) ?_
  refine va_putF (D := (dC, dI)) (ci := 7) (v := .ref q_4) (ty := (.array .int)) (C := RX7) (T := TX7) (N := 10) hx hb hts hiX7 tyX7 tyX7_ok nmX7 hown hK hP hD hS 0 rfl rfl 4 (by decide) (hts (.fieldLink RX7 25 "ScissorsTable$Stairs" "start" "[I") (by decide +kernel)) (fun _ h9 => h9) rfl hin rfl (by decide +kernel) rfl rfl (Nat.le_of_ble_eq_true rfl) dX7_init_36 (fun H locs hP hD hS => ?_)
  have hP : va_P (dC, dI) vwCl [(h0, .inr (7, [.int (-1), .ref q_1, .ref q_2, .ref q_3, .ref q_4, .null, .null, .null, .int 0, .null])), (q_1, .inl (cI, 576, (.inl (fun _ => 0)))), (q_2, .inl (cI, 3, (.inl (fun _ => 0)))), (q_3, .inl (cI, 3, (.inl (fun _ => 0)))), (q_4, .inl (cI, 3, (.inl (fun _ => 0))))] H := hP
  have hD : va_D A [(h0, .inr (7, [.int (-1), .ref q_1, .ref q_2, .ref q_3, .ref q_4, .null, .null, .null, .int 0, .null])), (q_1, .inl (cI, 576, (.inl (fun _ => 0)))), (q_2, .inl (cI, 3, (.inl (fun _ => 0)))), (q_3, .inl (cI, 3, (.inl (fun _ => 0)))), (q_4, .inl (cI, 3, (.inl (fun _ => 0))))] := hD
  refine lv_aload_n hx hb dX7_init_39 rfl (lv_at hl 0 rfl) ?_
  refine lv_sipush (v := 576) hx hb dX7_init_40 (by decide) ?_
  refine va_newa (atype := .int) (ty := .int) (N' := 576) (a0 := (576, (.inl (fun _ => 0)))) hx hb (hts (.arrayClass .int) (by decide +kernel)) rfl hK hP hD hS hA (fun _ => rfl) (by decide) (by decide) (Nat.le_of_ble_eq_true rfl) (Nat.le_of_ble_eq_true rfl) (Nat.le_of_ble_eq_true rfl) dX7_init_43 (fun q_5 cA H hKn hP hD hS => ?_)
  obtain rfl : cI = cA := nk_same hK hKn 1 rfl (fun h => h) (fun h => h)
  have hP : va_P (dC, dI) vwCl [(h0, .inr (7, [.int (-1), .ref q_1, .ref q_2, .ref q_3, .ref q_4, .null, .null, .null, .int 0, .null])), (q_1, .inl (cI, 576, (.inl (fun _ => 0)))), (q_2, .inl (cI, 3, (.inl (fun _ => 0)))), (q_3, .inl (cI, 3, (.inl (fun _ => 0)))), (q_4, .inl (cI, 3, (.inl (fun _ => 0)))), (q_5, .inl (cI, 576, (.inl (fun _ => 0))))] H := hP
  have hD : va_D A [(h0, .inr (7, [.int (-1), .ref q_1, .ref q_2, .ref q_3, .ref q_4, .null, .null, .null, .int 0, .null])), (q_1, .inl (cI, 576, (.inl (fun _ => 0)))), (q_2, .inl (cI, 3, (.inl (fun _ => 0)))), (q_3, .inl (cI, 3, (.inl (fun _ => 0)))), (q_4, .inl (cI, 3, (.inl (fun _ => 0)))), (q_5, .inl (cI, 576, (.inl (fun _ => 0))))] := hD
  refine W.widen (k := 5) (n := 1161) (Nat.le_of_ble_eq_true rfl) (Nat.le_of_ble_eq_true rfl) ?_
  refine va_putF (D := (dC, dI)) (ci := 7) (v := .ref q_5) (ty := (.array .int)) (C := RX7) (T := TX7) (N := 10) hx hb hts hiX7 tyX7 tyX7_ok nmX7 hown hK hP hD hS 0 rfl rfl 5 (by decide) (hts (.fieldLink RX7 28 "ScissorsTable$Stairs" "ahead" "[I") (by decide +kernel)) (fun _ h9 => h9) rfl hin rfl (by decide +kernel) rfl rfl (Nat.le_of_ble_eq_true rfl) dX7_init_45 (fun H locs hP hD hS => ?_)
  have hP : va_P (dC, dI) vwCl [(h0, .inr (7, [.int (-1), .ref q_1, .ref q_2, .ref q_3, .ref q_4, .ref q_5, .null, .null, .int 0, .null])), (q_1, .inl (cI, 576, (.inl (fun _ => 0)))), (q_2, .inl (cI, 3, (.inl (fun _ => 0)))), (q_3, .inl (cI, 3, (.inl (fun _ => 0)))), (q_4, .inl (cI, 3, (.inl (fun _ => 0)))), (q_5, .inl (cI, 576, (.inl (fun _ => 0))))] H := hP
  have hD : va_D A [(h0, .inr (7, [.int (-1), .ref q_1, .ref q_2, .ref q_3, .ref q_4, .ref q_5, .null, .null, .int 0, .null])), (q_1, .inl (cI, 576, (.inl (fun _ => 0)))), (q_2, .inl (cI, 3, (.inl (fun _ => 0)))), (q_3, .inl (cI, 3, (.inl (fun _ => 0)))), (q_4, .inl (cI, 3, (.inl (fun _ => 0)))), (q_5, .inl (cI, 576, (.inl (fun _ => 0))))] := hD
  refine lv_aload_n hx hb dX7_init_48 rfl (lv_at hl 0 rfl) ?_
  refine lv_sipush (v := 576) hx hb dX7_init_49 (by decide) ?_
  refine va_newa (atype := .int) (ty := .int) (N' := 576) (a0 := (576, (.inl (fun _ => 0)))) hx hb (hts (.arrayClass .int) (by decide +kernel)) rfl hK hP hD hS hA (fun _ => rfl) (by decide) (by decide) (Nat.le_of_ble_eq_true rfl) (Nat.le_of_ble_eq_true rfl) (Nat.le_of_ble_eq_true rfl) dX7_init_52 (fun q_6 cA H hKn hP hD hS => ?_)
  obtain rfl : cI = cA := nk_same hK hKn 1 rfl (fun h => h) (fun h => h)
  have hP : va_P (dC, dI) vwCl [(h0, .inr (7, [.int (-1), .ref q_1, .ref q_2, .ref q_3, .ref q_4, .ref q_5, .null, .null, .int 0, .null])), (q_1, .inl (cI, 576, (.inl (fun _ => 0)))), (q_2, .inl (cI, 3, (.inl (fun _ => 0)))), (q_3, .inl (cI, 3, (.inl (fun _ => 0)))), (q_4, .inl (cI, 3, (.inl (fun _ => 0)))), (q_5, .inl (cI, 576, (.inl (fun _ => 0)))), (q_6, .inl (cI, 576, (.inl (fun _ => 0))))] H := hP
  have hD : va_D A [(h0, .inr (7, [.int (-1), .ref q_1, .ref q_2, .ref q_3, .ref q_4, .ref q_5, .null, .null, .int 0, .null])), (q_1, .inl (cI, 576, (.inl (fun _ => 0)))), (q_2, .inl (cI, 3, (.inl (fun _ => 0)))), (q_3, .inl (cI, 3, (.inl (fun _ => 0)))), (q_4, .inl (cI, 3, (.inl (fun _ => 0)))), (q_5, .inl (cI, 576, (.inl (fun _ => 0)))), (q_6, .inl (cI, 576, (.inl (fun _ => 0))))] := hD
  refine W.widen (k := 6) (n := 1737) (Nat.le_of_ble_eq_true rfl) (Nat.le_of_ble_eq_true rfl) ?_
  refine va_putF (D := (dC, dI)) (ci := 7) (v := .ref q_6) (ty := (.array .int)) (C := RX7) (T := TX7) (N := 10) hx hb hts hiX7 tyX7 tyX7_ok nmX7 hown hK hP hD hS 0 rfl rfl 6 (by decide) (hts (.fieldLink RX7 31 "ScissorsTable$Stairs" "queue" "[I") (by decide +kernel)) (fun _ h9 => h9) rfl hin rfl (by decide +kernel) rfl rfl (Nat.le_of_ble_eq_true rfl) dX7_init_54 (fun H locs hP hD hS => ?_)
  have hP : va_P (dC, dI) vwCl [(h0, .inr (7, [.int (-1), .ref q_1, .ref q_2, .ref q_3, .ref q_4, .ref q_5, .ref q_6, .null, .int 0, .null])), (q_1, .inl (cI, 576, (.inl (fun _ => 0)))), (q_2, .inl (cI, 3, (.inl (fun _ => 0)))), (q_3, .inl (cI, 3, (.inl (fun _ => 0)))), (q_4, .inl (cI, 3, (.inl (fun _ => 0)))), (q_5, .inl (cI, 576, (.inl (fun _ => 0)))), (q_6, .inl (cI, 576, (.inl (fun _ => 0))))] H := hP
  have hD : va_D A [(h0, .inr (7, [.int (-1), .ref q_1, .ref q_2, .ref q_3, .ref q_4, .ref q_5, .ref q_6, .null, .int 0, .null])), (q_1, .inl (cI, 576, (.inl (fun _ => 0)))), (q_2, .inl (cI, 3, (.inl (fun _ => 0)))), (q_3, .inl (cI, 3, (.inl (fun _ => 0)))), (q_4, .inl (cI, 3, (.inl (fun _ => 0)))), (q_5, .inl (cI, 576, (.inl (fun _ => 0)))), (q_6, .inl (cI, 576, (.inl (fun _ => 0))))] := hD
  refine lv_aload_n hx hb dX7_init_57 rfl (lv_at hl 0 rfl) ?_
  refine lv_sipush (v := 576) hx hb dX7_init_58 (by decide) ?_
  refine va_newa (atype := .int) (ty := .int) (N' := 576) (a0 := (576, (.inl (fun _ => 0)))) hx hb (hts (.arrayClass .int) (by decide +kernel)) rfl hK hP hD hS hA (fun _ => rfl) (by decide) (by decide) (Nat.le_of_ble_eq_true rfl) (Nat.le_of_ble_eq_true rfl) (Nat.le_of_ble_eq_true rfl) dX7_init_61 (fun q_7 cA H hKn hP hD hS => ?_)
  obtain rfl : cI = cA := nk_same hK hKn 1 rfl (fun h => h) (fun h => h)
  have hP : va_P (dC, dI) vwCl [(h0, .inr (7, [.int (-1), .ref q_1, .ref q_2, .ref q_3, .ref q_4, .ref q_5, .ref q_6, .null, .int 0, .null])), (q_1, .inl (cI, 576, (.inl (fun _ => 0)))), (q_2, .inl (cI, 3, (.inl (fun _ => 0)))), (q_3, .inl (cI, 3, (.inl (fun _ => 0)))), (q_4, .inl (cI, 3, (.inl (fun _ => 0)))), (q_5, .inl (cI, 576, (.inl (fun _ => 0)))), (q_6, .inl (cI, 576, (.inl (fun _ => 0)))), (q_7, .inl (cI, 576, (.inl (fun _ => 0))))] H := hP
  have hD : va_D A [(h0, .inr (7, [.int (-1), .ref q_1, .ref q_2, .ref q_3, .ref q_4, .ref q_5, .ref q_6, .null, .int 0, .null])), (q_1, .inl (cI, 576, (.inl (fun _ => 0)))), (q_2, .inl (cI, 3, (.inl (fun _ => 0)))), (q_3, .inl (cI, 3, (.inl (fun _ => 0)))), (q_4, .inl (cI, 3, (.inl (fun _ => 0)))), (q_5, .inl (cI, 576, (.inl (fun _ => 0)))), (q_6, .inl (cI, 576, (.inl (fun _ => 0)))), (q_7, .inl (cI, 576, (.inl (fun _ => 0))))] := hD
  refine W.widen (k := 7) (n := 2313) (Nat.le_of_ble_eq_true rfl) (Nat.le_of_ble_eq_true rfl) ?_
  refine va_putF (D := (dC, dI)) (ci := 7) (v := .ref q_7) (ty := (.array .int)) (C := RX7) (T := TX7) (N := 10) hx hb hts hiX7 tyX7 tyX7_ok nmX7 hown hK hP hD hS 0 rfl rfl 7 (by decide) (hts (.fieldLink RX7 34 "ScissorsTable$Stairs" "reached" "[I") (by decide +kernel)) (fun _ h9 => h9) rfl hin rfl (by decide +kernel) rfl rfl (Nat.le_of_ble_eq_true rfl) dX7_init_63 (fun H locs hP hD hS => ?_)
  have hP : va_P (dC, dI) vwCl [(h0, .inr (7, [.int (-1), .ref q_1, .ref q_2, .ref q_3, .ref q_4, .ref q_5, .ref q_6, .ref q_7, .int 0, .null])), (q_1, .inl (cI, 576, (.inl (fun _ => 0)))), (q_2, .inl (cI, 3, (.inl (fun _ => 0)))), (q_3, .inl (cI, 3, (.inl (fun _ => 0)))), (q_4, .inl (cI, 3, (.inl (fun _ => 0)))), (q_5, .inl (cI, 576, (.inl (fun _ => 0)))), (q_6, .inl (cI, 576, (.inl (fun _ => 0)))), (q_7, .inl (cI, 576, (.inl (fun _ => 0))))] H := hP
  have hD : va_D A [(h0, .inr (7, [.int (-1), .ref q_1, .ref q_2, .ref q_3, .ref q_4, .ref q_5, .ref q_6, .ref q_7, .int 0, .null])), (q_1, .inl (cI, 576, (.inl (fun _ => 0)))), (q_2, .inl (cI, 3, (.inl (fun _ => 0)))), (q_3, .inl (cI, 3, (.inl (fun _ => 0)))), (q_4, .inl (cI, 3, (.inl (fun _ => 0)))), (q_5, .inl (cI, 576, (.inl (fun _ => 0)))), (q_6, .inl (cI, 576, (.inl (fun _ => 0)))), (q_7, .inl (cI, 576, (.inl (fun _ => 0))))] := hD
  refine lv_aload_n hx hb dX7_init_66 rfl (lv_at hl 0 rfl) ?_
  refine lv_sipush (v := 1623) hx hb dX7_init_67 (by decide) ?_
  refine va_newa (atype := .long) (ty := .long) (N' := 1623) (a0 := (1623, (.inr (.inl (fun _ => 0))))) hx hb (hts (.arrayClass .long) (by decide +kernel)) rfl hK hP hD hS hA (fun _ => rfl) (by decide) (by decide) (Nat.le_of_ble_eq_true rfl) (Nat.le_of_ble_eq_true rfl) (Nat.le_of_ble_eq_true rfl) dX7_init_70 (fun q_8 cA H hKn hP hD hS => ?_)
  obtain rfl : cJ = cA := nk_same hK hKn 2 rfl (fun h => h) (fun h => h)
  have hP : va_P (dC, dI) vwCl [(h0, .inr (7, [.int (-1), .ref q_1, .ref q_2, .ref q_3, .ref q_4, .ref q_5, .ref q_6, .ref q_7, .int 0, .null])), (q_1, .inl (cI, 576, (.inl (fun _ => 0)))), (q_2, .inl (cI, 3, (.inl (fun _ => 0)))), (q_3, .inl (cI, 3, (.inl (fun _ => 0)))), (q_4, .inl (cI, 3, (.inl (fun _ => 0)))), (q_5, .inl (cI, 576, (.inl (fun _ => 0)))), (q_6, .inl (cI, 576, (.inl (fun _ => 0)))), (q_7, .inl (cI, 576, (.inl (fun _ => 0)))), (q_8, .inl (cJ, 1623, (.inr (.inl (fun _ => 0)))))] H := hP
  have hD : va_D A [(h0, .inr (7, [.int (-1), .ref q_1, .ref q_2, .ref q_3, .ref q_4, .ref q_5, .ref q_6, .ref q_7, .int 0, .null])), (q_1, .inl (cI, 576, (.inl (fun _ => 0)))), (q_2, .inl (cI, 3, (.inl (fun _ => 0)))), (q_3, .inl (cI, 3, (.inl (fun _ => 0)))), (q_4, .inl (cI, 3, (.inl (fun _ => 0)))), (q_5, .inl (cI, 576, (.inl (fun _ => 0)))), (q_6, .inl (cI, 576, (.inl (fun _ => 0)))), (q_7, .inl (cI, 576, (.inl (fun _ => 0)))), (q_8, .inl (cJ, 1623, (.inr (.inl (fun _ => 0)))))] := hD
  refine W.widen (k := 8) (n := 3936) (Nat.le_of_ble_eq_true rfl) (Nat.le_of_ble_eq_true rfl) ?_
  refine va_putF (D := (dC, dI)) (ci := 7) (v := .ref q_8) (ty := (.array .long)) (C := RX7) (T := TX7) (N := 10) hx hb hts hiX7 tyX7 tyX7_ok nmX7 hown hK hP hD hS 0 rfl rfl 9 (by decide) (hts (.fieldLink RX7 37 "ScissorsTable$Stairs" "seen" "[J") (by decide +kernel)) (fun _ h9 => h9) rfl hin rfl (by decide +kernel) rfl rfl (Nat.le_of_ble_eq_true rfl) dX7_init_72 (fun H locs hP hD hS => ?_)
  have hP : va_P (dC, dI) vwCl [(h0, .inr (7, [.int (-1), .ref q_1, .ref q_2, .ref q_3, .ref q_4, .ref q_5, .ref q_6, .ref q_7, .int 0, .ref q_8])), (q_1, .inl (cI, 576, (.inl (fun _ => 0)))), (q_2, .inl (cI, 3, (.inl (fun _ => 0)))), (q_3, .inl (cI, 3, (.inl (fun _ => 0)))), (q_4, .inl (cI, 3, (.inl (fun _ => 0)))), (q_5, .inl (cI, 576, (.inl (fun _ => 0)))), (q_6, .inl (cI, 576, (.inl (fun _ => 0)))), (q_7, .inl (cI, 576, (.inl (fun _ => 0)))), (q_8, .inl (cJ, 1623, (.inr (.inl (fun _ => 0)))))] H := hP
  have hD : va_D A [(h0, .inr (7, [.int (-1), .ref q_1, .ref q_2, .ref q_3, .ref q_4, .ref q_5, .ref q_6, .ref q_7, .int 0, .ref q_8])), (q_1, .inl (cI, 576, (.inl (fun _ => 0)))), (q_2, .inl (cI, 3, (.inl (fun _ => 0)))), (q_3, .inl (cI, 3, (.inl (fun _ => 0)))), (q_4, .inl (cI, 3, (.inl (fun _ => 0)))), (q_5, .inl (cI, 576, (.inl (fun _ => 0)))), (q_6, .inl (cI, 576, (.inl (fun _ => 0)))), (q_7, .inl (cI, 576, (.inl (fun _ => 0)))), (q_8, .inl (cJ, 1623, (.inr (.inl (fun _ => 0)))))] := hD
  have hP9 := hP.sub (ws' := [(h0, .inr (7, [.int (-1), .ref q_1, .ref q_2, .ref q_3, .ref q_4, .ref q_5, .ref q_6, .ref q_7, .int 0, .ref q_8])), (q_1, .inl (cI, 576, (.inl (fun _ => 0)))), (q_2, .inl (cI, 3, (.inl (fun _ => 0)))), (q_3, .inl (cI, 3, (.inl (fun _ => 0)))), (q_4, .inl (cI, 3, (.inl (fun _ => 0)))), (q_5, .inl (cI, 576, (.inl (fun _ => 0)))), (q_6, .inl (cI, 576, (.inl (fun _ => 0)))), (q_7, .inl (cI, 576, (.inl (fun _ => 0)))), (q_8, .inl (cJ, 1623, (.inr (.inl (fun _ => 0)))))]) [0, 1, 2, 3, 4, 5, 6, 7, 8] rfl
  have hD9 := hD.sub (ws' := [(h0, .inr (7, [.int (-1), .ref q_1, .ref q_2, .ref q_3, .ref q_4, .ref q_5, .ref q_6, .ref q_7, .int 0, .ref q_8])), (q_1, .inl (cI, 576, (.inl (fun _ => 0)))), (q_2, .inl (cI, 3, (.inl (fun _ => 0)))), (q_3, .inl (cI, 3, (.inl (fun _ => 0)))), (q_4, .inl (cI, 3, (.inl (fun _ => 0)))), (q_5, .inl (cI, 576, (.inl (fun _ => 0)))), (q_6, .inl (cI, 576, (.inl (fun _ => 0)))), (q_7, .inl (cI, 576, (.inl (fun _ => 0)))), (q_8, .inl (cJ, 1623, (.inr (.inl (fun _ => 0)))))]) [0, 1, 2, 3, 4, 5, 6, 7, 8] (by decide) rfl
  refine W.widen (k := 8) (n := 3936) (Nat.le_of_ble_eq_true rfl) (Nat.le_of_ble_eq_true rfl) ?_
  exact W.vret hx hb hr (fun t ht hW => ⟨⟨(), rfl, trivial, q_1, q_2, q_3, q_4, q_5, q_6, q_7, q_8, by rw [ht]; exact hP9, va_K.moved hW.alike hK, hD9⟩, hS.F ht⟩) hS.2.2 dX7_init_75
set_option maxHeartbeats 4000000 in
set_option maxRecDepth 100000 in
theorem c_X5_init (l : Launch) (dC : Nat → ClassId) (dI : Nat → Nat → Nat) (cB cI cJ : ClassId) (sz : Nat) (h0 : Nat) (k1 : Nat) : Met l yX5_init wsX5_init ({ frames := 1, cells := 1, slots := 13, locals := 24 }) (va_Pc [.ref h0, .ref k1] (fun U => U.heap.size = sz ∧ va_P (dC, dI) vwCl [(h0, .inr (5, [.null, .null, .int 0, .int 0, .int 0, .int 0, .int 0]))] U.heap ∧ va_K (dC, dI) vwCl [(cB, .byte), (cI, .int), (cJ, .long)] U ∧ va_D (fun _ => True) [(h0, .inr (5, [.null, .null, .int 0, .int 0, .int 0, .int 0, .int 0]))])) (va_Qv (fun _ : Unit => True) (fun _ t => ∃ q_1 : Nat, va_P (dC, dI) vwCl [(h0, .inr (5, [.ref k1, .ref q_1, .int 0, .int 0, .int 0, .int 0, .int 0])), (q_1, .inl (cI, 13, (.inl (fun _ => 0))))] t.heap ∧ va_K (dC, dI) vwCl [(cB, .byte), (cI, .int), (cJ, .long)] t ∧ va_D (va_A [(h0, .inr (5, [.null, .null, .int 0, .int 0, .int 0, .int 0, .int 0]))] sz) [(h0, .inr (5, [.ref k1, .ref q_1, .int 0, .int 0, .int 0, .int 0, .int 0])), (q_1, .inl (cI, 13, (.inl (fun _ => 0))))]) (va_A [(h0, .inr (5, [.null, .null, .int 0, .int 0, .int 0, .int 0, .int 0]))] sz)) 1 13 (va_A [(h0, .inr (5, [.null, .null, .int 0, .int 0, .int 0, .int 0, .int 0]))] sz) := by
  refine Met.ofW (cc := cX5_init) (maxL := 2) (ret := none) (by decide) rfl ?_
  intro p e s m args below meth c s₁ B hml hv
  obtain ⟨rfl, hsz, hP, hK, hD0⟩ := hv
  have hx := B.exec
  have hb := B.bytes
  have hr := B.returns
  have hts := atoms_spec (ws := wsX5_init) B.pre
  have hown : s.vm.findClass RX5 = some m.cls := findClass_of_methodNamed B.named
  have hlocks := B.notSynchronized
  have hin : meth.name = "<init>" := (name_of_methodNamed B.named B.method).1
  have hiX5 : ∀ w ∈ u_ws RX5 TX5 7, w ∈ wsX5_init := by decide +kernel
  subst hsz
  have hD := hD0.self (sz := s.heap.size)
  generalize hAe : va_A [(h0, .inr (5, [.null, .null, .int 0, .int 0, .int 0, .int 0, .int 0]))] s.heap.size = A at hD ⊢
  have hA : ∀ q : Nat, s.heap.size ≤ q → A q := fun q h => by rw [← hAe]; exact Or.inr h
  have hS : va_S A s.heap s.heap [] := va_S.rf
  have hP : va_P (dC, dI) vwCl [(h0, .inr (5, [.null, .null, .int 0, .int 0, .int 0, .int 0, .int 0]))] s.heap := hP
  have hl := lv_entry ([.ref h0, .ref k1]) (n := 2) (Nat.le_of_ble_eq_true rfl)
  rw [lg_entry_eq]
  generalize (lg_sl ([.ref h0, .ref k1]) ++ List.replicate (2 - (lg_sl ([.ref h0, .ref k1])).length) Slot.unset).toArray = ls at hl ⊢
  have hl : lv_has ls 2 [(0, .ref h0), (1, .ref k1)] := hl
  refine lv_aload_n hx hb dX5_init_0 rfl (lv_at hl 0 rfl) ?_
  refine W.objInit hx hb hown (hts (.methodLink RX5 3 objectInit) (by decide +kernel)) (hts (.instanceMethod objectInit) (by decide +kernel)) (hts _ (List.mem_of_getElem? (i := 3) rfl)) rfl (by rw [hml]; exact hl.1) rfl dX5_init_1 (Nat.le_of_ble_eq_true rfl) (Nat.le_of_ble_eq_true rfl) ?_
  refine W.eq (g2 := F0 m 4 ls []) rfl ?_
  refine lv_aload_n hx hb dX5_init_4 rfl (lv_at hl 0 rfl) ?_
  refine lv_bipush (v := 13) hx hb dX5_init_5 (by decide) ?_
  refine va_newa (atype := .int) (ty := .int) (N' := 13) (a0 := (13, (.inl (fun _ => 0)))) hx hb (hts (.arrayClass .int) (by decide +kernel)) rfl hK hP hD hS hA (fun _ => rfl) (by decide) (by decide) (Nat.le_of_ble_eq_true rfl) (Nat.le_of_ble_eq_true rfl) (Nat.le_of_ble_eq_true rfl) dX5_init_7 (fun q_1 cA H hKn hP hD hS => ?_)
  obtain rfl : cI = cA := nk_same hK hKn 1 rfl (fun h => h) (fun h => h)
  have hP : va_P (dC, dI) vwCl [(h0, .inr (5, [.null, .null, .int 0, .int 0, .int 0, .int 0, .int 0])), (q_1, .inl (cI, 13, (.inl (fun _ => 0))))] H := hP
  have hD : va_D A [(h0, .inr (5, [.null, .null, .int 0, .int 0, .int 0, .int 0, .int 0])), (q_1, .inl (cI, 13, (.inl (fun _ => 0))))] := hD
  refine W.widen (k := 1) (n := 13) (Nat.le_of_ble_eq_true rfl) (Nat.le_of_ble_eq_true rfl) ?_
  refine va_putF (D := (dC, dI)) (ci := 5) (v := .ref q_1) (ty := (.array .int)) (C := RX5) (T := TX5) (N := 7) hx hb hts hiX5 tyX5 tyX5_ok nmX5 hown hK hP hD hS 0 rfl rfl 1 (by decide) (hts (.fieldLink RX5 11 "ScissorsTable$Reader" "numbers" "[I") (by decide +kernel)) (fun _ h9 => h9) rfl hin rfl (by decide +kernel) rfl rfl (Nat.le_of_ble_eq_true rfl) dX5_init_9 (fun H locs hP hD hS => ?_)
  have hP : va_P (dC, dI) vwCl [(h0, .inr (5, [.null, .ref q_1, .int 0, .int 0, .int 0, .int 0, .int 0])), (q_1, .inl (cI, 13, (.inl (fun _ => 0))))] H := hP
  have hD : va_D A [(h0, .inr (5, [.null, .ref q_1, .int 0, .int 0, .int 0, .int 0, .int 0])), (q_1, .inl (cI, 13, (.inl (fun _ => 0))))] := hD
  refine lv_aload_n hx hb dX5_init_12 rfl (lv_at hl 0 rfl) ?_
  refine lv_aload_n hx hb dX5_init_13 rfl (lv_at hl 1 rfl) ?_
  refine va_putF (D := (dC, dI)) (ci := 5) (v := .ref k1) (ty := (.object "ScissorsTable$Tape")) (C := RX5) (T := TX5) (N := 7) hx hb hts hiX5 tyX5 tyX5_ok nmX5 hown hK hP hD hS 0 rfl rfl 0 (by decide) (hts (.fieldLink RX5 15 "ScissorsTable$Reader" "tape" "LScissorsTable$Tape;") (by decide +kernel)) (fun _ h9 => h9) rfl hin rfl (by decide +kernel) rfl rfl (Nat.le_of_ble_eq_true rfl) dX5_init_14 (fun H locs hP hD hS => ?_)
  have hP : va_P (dC, dI) vwCl [(h0, .inr (5, [.ref k1, .ref q_1, .int 0, .int 0, .int 0, .int 0, .int 0])), (q_1, .inl (cI, 13, (.inl (fun _ => 0))))] H := hP
  have hD : va_D A [(h0, .inr (5, [.ref k1, .ref q_1, .int 0, .int 0, .int 0, .int 0, .int 0])), (q_1, .inl (cI, 13, (.inl (fun _ => 0))))] := hD
  have hP9 := hP.sub (ws' := [(h0, .inr (5, [.ref k1, .ref q_1, .int 0, .int 0, .int 0, .int 0, .int 0])), (q_1, .inl (cI, 13, (.inl (fun _ => 0))))]) [0, 1] rfl
  have hD9 := hD.sub (ws' := [(h0, .inr (5, [.ref k1, .ref q_1, .int 0, .int 0, .int 0, .int 0, .int 0])), (q_1, .inl (cI, 13, (.inl (fun _ => 0))))]) [0, 1] (by decide) rfl
  refine W.widen (k := 1) (n := 13) (Nat.le_of_ble_eq_true rfl) (Nat.le_of_ble_eq_true rfl) ?_
  exact W.vret hx hb hr (fun t ht hW => ⟨⟨(), rfl, trivial, q_1, by rw [ht]; exact hP9, va_K.moved hW.alike hK, hD9⟩, hS.F ht⟩) hS.2.2 dX5_init_17
set_option maxHeartbeats 4000000 in
set_option maxRecDepth 100000 in
theorem c_X2_init (l : Launch) (dC : Nat → ClassId) (dI : Nat → Nat → Nat) (cB cI cJ : ClassId) (sz : Nat) (h0 : Nat) (k1 : Nat) : Met l yX2_init wsX2_init ({ frames := 1, cells := 1, slots := 12, locals := 24 }) (va_Pc [.ref h0, .ref k1] (fun U => U.heap.size = sz ∧ va_P (dC, dI) vwCl [(h0, .inr (2, [.null, .null]))] U.heap ∧ va_K (dC, dI) vwCl [(cB, .byte), (cI, .int), (cJ, .long)] U ∧ va_D (fun _ => True) [(h0, .inr (2, [.null, .null]))])) (va_Qv (fun _ : Unit => True) (fun _ t => ∃ q_1 : Nat, va_P (dC, dI) vwCl [(h0, .inr (2, [.ref k1, .ref q_1])), (q_1, .inl (cI, 12, (.inl (fun _ => 0))))] t.heap ∧ va_K (dC, dI) vwCl [(cB, .byte), (cI, .int), (cJ, .long)] t ∧ va_D (va_A [(h0, .inr (2, [.null, .null]))] sz) [(h0, .inr (2, [.ref k1, .ref q_1])), (q_1, .inl (cI, 12, (.inl (fun _ => 0))))]) (va_A [(h0, .inr (2, [.null, .null]))] sz)) 1 12 (va_A [(h0, .inr (2, [.null, .null]))] sz) := by
  refine Met.ofW (cc := cX2_init) (maxL := 2) (ret := none) (by decide) rfl ?_
  intro p e s m args below meth c s₁ B hml hv
  obtain ⟨rfl, hsz, hP, hK, hD0⟩ := hv
  have hx := B.exec
  have hb := B.bytes
  have hr := B.returns
  have hts := atoms_spec (ws := wsX2_init) B.pre
  have hown : s.vm.findClass RX2 = some m.cls := findClass_of_methodNamed B.named
  have hlocks := B.notSynchronized
  have hin : meth.name = "<init>" := (name_of_methodNamed B.named B.method).1
  have hiX2 : ∀ w ∈ u_ws RX2 TX2 2, w ∈ wsX2_init := by decide +kernel
  subst hsz
  have hD := hD0.self (sz := s.heap.size)
  generalize hAe : va_A [(h0, .inr (2, [.null, .null]))] s.heap.size = A at hD ⊢
  have hA : ∀ q : Nat, s.heap.size ≤ q → A q := fun q h => by rw [← hAe]; exact Or.inr h
  have hS : va_S A s.heap s.heap [] := va_S.rf
  have hP : va_P (dC, dI) vwCl [(h0, .inr (2, [.null, .null]))] s.heap := hP
  have hl := lv_entry ([.ref h0, .ref k1]) (n := 2) (Nat.le_of_ble_eq_true rfl)
  rw [lg_entry_eq]
  generalize (lg_sl ([.ref h0, .ref k1]) ++ List.replicate (2 - (lg_sl ([.ref h0, .ref k1])).length) Slot.unset).toArray = ls at hl ⊢
  have hl : lv_has ls 2 [(0, .ref h0), (1, .ref k1)] := hl
  refine lv_aload_n hx hb dX2_init_0 rfl (lv_at hl 0 rfl) ?_
  refine W.objInit hx hb hown (hts (.methodLink RX2 3 objectInit) (by decide +kernel)) (hts (.instanceMethod objectInit) (by decide +kernel)) (hts _ (List.mem_of_getElem? (i := 3) rfl)) rfl (by rw [hml]; exact hl.1) rfl dX2_init_1 (Nat.le_of_ble_eq_true rfl) (Nat.le_of_ble_eq_true rfl) ?_
  refine W.eq (g2 := F0 m 4 ls []) rfl ?_
  refine lv_aload_n hx hb dX2_init_4 rfl (lv_at hl 0 rfl) ?_
  refine lv_bipush (v := 12) hx hb dX2_init_5 (by decide) ?_
  refine va_newa (atype := .int) (ty := .int) (N' := 12) (a0 := (12, (.inl (fun _ => 0)))) hx hb (hts (.arrayClass .int) (by decide +kernel)) rfl hK hP hD hS hA (fun _ => rfl) (by decide) (by decide) (Nat.le_of_ble_eq_true rfl) (Nat.le_of_ble_eq_true rfl) (Nat.le_of_ble_eq_true rfl) dX2_init_7 (fun q_1 cA H hKn hP hD hS => ?_)
  obtain rfl : cI = cA := nk_same hK hKn 1 rfl (fun h => h) (fun h => h)
  have hP : va_P (dC, dI) vwCl [(h0, .inr (2, [.null, .null])), (q_1, .inl (cI, 12, (.inl (fun _ => 0))))] H := hP
  have hD : va_D A [(h0, .inr (2, [.null, .null])), (q_1, .inl (cI, 12, (.inl (fun _ => 0))))] := hD
  refine W.widen (k := 1) (n := 12) (Nat.le_of_ble_eq_true rfl) (Nat.le_of_ble_eq_true rfl) ?_
  refine va_putF (D := (dC, dI)) (ci := 2) (v := .ref q_1) (ty := (.array .int)) (C := RX2) (T := TX2) (N := 2) hx hb hts hiX2 tyX2 tyX2_ok nmX2 hown hK hP hD hS 0 rfl rfl 1 (by decide) (hts (.fieldLink RX2 11 "ScissorsTable$Builder" "row" "[I") (by decide +kernel)) (fun _ h9 => h9) rfl hin rfl (by decide +kernel) rfl rfl (Nat.le_of_ble_eq_true rfl) dX2_init_9 (fun H locs hP hD hS => ?_)
  have hP : va_P (dC, dI) vwCl [(h0, .inr (2, [.null, .ref q_1])), (q_1, .inl (cI, 12, (.inl (fun _ => 0))))] H := hP
  have hD : va_D A [(h0, .inr (2, [.null, .ref q_1])), (q_1, .inl (cI, 12, (.inl (fun _ => 0))))] := hD
  refine lv_aload_n hx hb dX2_init_12 rfl (lv_at hl 0 rfl) ?_
  refine lv_aload_n hx hb dX2_init_13 rfl (lv_at hl 1 rfl) ?_
  refine va_putF (D := (dC, dI)) (ci := 2) (v := .ref k1) (ty := (.object "ScissorsTable$Bag")) (C := RX2) (T := TX2) (N := 2) hx hb hts hiX2 tyX2 tyX2_ok nmX2 hown hK hP hD hS 0 rfl rfl 0 (by decide) (hts (.fieldLink RX2 17 "ScissorsTable$Builder" "bag" "LScissorsTable$Bag;") (by decide +kernel)) (fun _ h9 => h9) rfl hin rfl (by decide +kernel) rfl rfl (Nat.le_of_ble_eq_true rfl) dX2_init_14 (fun H locs hP hD hS => ?_)
  have hP : va_P (dC, dI) vwCl [(h0, .inr (2, [.ref k1, .ref q_1])), (q_1, .inl (cI, 12, (.inl (fun _ => 0))))] H := hP
  have hD : va_D A [(h0, .inr (2, [.ref k1, .ref q_1])), (q_1, .inl (cI, 12, (.inl (fun _ => 0))))] := hD
  have hP9 := hP.sub (ws' := [(h0, .inr (2, [.ref k1, .ref q_1])), (q_1, .inl (cI, 12, (.inl (fun _ => 0))))]) [0, 1] rfl
  have hD9 := hD.sub (ws' := [(h0, .inr (2, [.ref k1, .ref q_1])), (q_1, .inl (cI, 12, (.inl (fun _ => 0))))]) [0, 1] (by decide) rfl
  refine W.widen (k := 1) (n := 12) (Nat.le_of_ble_eq_true rfl) (Nat.le_of_ble_eq_true rfl) ?_
  exact W.vret hx hb hr (fun t ht hW => ⟨⟨(), rfl, trivial, q_1, by rw [ht]; exact hP9, va_K.moved hW.alike hK, hD9⟩, hS.F ht⟩) hS.2.2 dX2_init_17
set_option maxHeartbeats 4000000 in
set_option maxRecDepth 100000 in
theorem c_X6_init (l : Launch) (dC : Nat → ClassId) (dI : Nat → Nat → Nat) (cB cI cJ : ClassId) (sz : Nat) (h0 : Nat) (k1 : Nat) : Met l yX6_init wsX6_init ({ frames := 1, cells := 2, slots := 540, locals := 24 }) (va_Pc [.ref h0, .ref k1] (fun U => U.heap.size = sz ∧ va_P (dC, dI) vwCl [(h0, .inr (6, [.null, .null, .null, .int 0]))] U.heap ∧ va_K (dC, dI) vwCl [(cB, .byte), (cI, .int), (cJ, .long)] U ∧ va_D (fun _ => True) [(h0, .inr (6, [.null, .null, .null, .int 0]))])) (va_Qv (fun _ : Unit => True) (fun _ t => ∃ q_1 : Nat, ∃ q_2 : Nat, va_P (dC, dI) vwCl [(h0, .inr (6, [.ref k1, .ref q_1, .ref q_2, .int 0])), (q_1, .inl (cI, 528, (.inl (fun _ => 0)))), (q_2, .inl (cI, 12, (.inl (fun _ => 0))))] t.heap ∧ va_K (dC, dI) vwCl [(cB, .byte), (cI, .int), (cJ, .long)] t ∧ va_D (va_A [(h0, .inr (6, [.null, .null, .null, .int 0]))] sz) [(h0, .inr (6, [.ref k1, .ref q_1, .ref q_2, .int 0])), (q_1, .inl (cI, 528, (.inl (fun _ => 0)))), (q_2, .inl (cI, 12, (.inl (fun _ => 0))))]) (va_A [(h0, .inr (6, [.null, .null, .null, .int 0]))] sz)) 2 540 (va_A [(h0, .inr (6, [.null, .null, .null, .int 0]))] sz) := by
  refine Met.ofW (cc := cX6_init) (maxL := 2) (ret := none) (by decide) rfl ?_
  intro p e s m args below meth c s₁ B hml hv
  obtain ⟨rfl, hsz, hP, hK, hD0⟩ := hv
  have hx := B.exec
  have hb := B.bytes
  have hr := B.returns
  have hts := atoms_spec (ws := wsX6_init) B.pre
  have hown : s.vm.findClass RX6 = some m.cls := findClass_of_methodNamed B.named
  have hlocks := B.notSynchronized
  have hin : meth.name = "<init>" := (name_of_methodNamed B.named B.method).1
  have hiX6 : ∀ w ∈ u_ws RX6 TX6 4, w ∈ wsX6_init := by decide +kernel
  subst hsz
  have hD := hD0.self (sz := s.heap.size)
  generalize hAe : va_A [(h0, .inr (6, [.null, .null, .null, .int 0]))] s.heap.size = A at hD ⊢
  have hA : ∀ q : Nat, s.heap.size ≤ q → A q := fun q h => by rw [← hAe]; exact Or.inr h
  have hS : va_S A s.heap s.heap [] := va_S.rf
  have hP : va_P (dC, dI) vwCl [(h0, .inr (6, [.null, .null, .null, .int 0]))] s.heap := hP
  have hl := lv_entry ([.ref h0, .ref k1]) (n := 2) (Nat.le_of_ble_eq_true rfl)
  rw [lg_entry_eq]
  generalize (lg_sl ([.ref h0, .ref k1]) ++ List.replicate (2 - (lg_sl ([.ref h0, .ref k1])).length) Slot.unset).toArray = ls at hl ⊢
  have hl : lv_has ls 2 [(0, .ref h0), (1, .ref k1)] := hl
  refine lv_aload_n hx hb dX6_init_0 rfl (lv_at hl 0 rfl) ?_
  refine W.objInit hx hb hown (hts (.methodLink RX6 5 objectInit) (by decide +kernel)) (hts (.instanceMethod objectInit) (by decide +kernel)) (hts _ (List.mem_of_getElem? (i := 3) rfl)) rfl (by rw [hml]; exact hl.1) rfl dX6_init_1 (Nat.le_of_ble_eq_true rfl) (Nat.le_of_ble_eq_true rfl) ?_
  refine W.eq (g2 := F0 m 4 ls []) rfl ?_
  refine lv_aload_n hx hb dX6_init_4 rfl (lv_at hl 0 rfl) ?_
  refine lv_sipush (v := 528) hx hb dX6_init_5 (by decide) ?_
  refine va_newa (atype := .int) (ty := .int) (N' := 528) (a0 := (528, (.inl (fun _ => 0)))) hx hb (hts (.arrayClass .int) (by decide +kernel)) rfl hK hP hD hS hA (fun _ => rfl) (by decide) (by decide) (Nat.le_of_ble_eq_true rfl) (Nat.le_of_ble_eq_true rfl) (Nat.le_of_ble_eq_true rfl) dX6_init_8 (fun q_1 cA H hKn hP hD hS => ?_)
  obtain rfl : cI = cA := nk_same hK hKn 1 rfl (fun h => h) (fun h => h)
  have hP : va_P (dC, dI) vwCl [(h0, .inr (6, [.null, .null, .null, .int 0])), (q_1, .inl (cI, 528, (.inl (fun _ => 0))))] H := hP
  have hD : va_D A [(h0, .inr (6, [.null, .null, .null, .int 0])), (q_1, .inl (cI, 528, (.inl (fun _ => 0))))] := hD
  refine W.widen (k := 1) (n := 528) (Nat.le_of_ble_eq_true rfl) (Nat.le_of_ble_eq_true rfl) ?_
  refine va_putF (D := (dC, dI)) (ci := 6) (v := .ref q_1) (ty := (.array .int)) (C := RX6) (T := TX6) (N := 4) hx hb hts hiX6 tyX6 tyX6_ok nmX6 hown hK hP hD hS 0 rfl rfl 1 (by decide) (hts (.fieldLink RX6 13 "ScissorsTable$Shreds" "stack" "[I") (by decide +kernel)) (fun _ h9 => h9) rfl hin rfl (by decide +kernel) rfl rfl (Nat.le_of_ble_eq_true rfl) dX6_init_10 (fun H locs hP hD hS => ?_)
  have hP : va_P (dC, dI) vwCl [(h0, .inr (6, [.null, .ref q_1, .null, .int 0])), (q_1, .inl (cI, 528, (.inl (fun _ => 0))))] H := hP
  have hD : va_D A [(h0, .inr (6, [.null, .ref q_1, .null, .int 0])), (q_1, .inl (cI, 528, (.inl (fun _ => 0))))] := hD
  refine lv_aload_n hx hb dX6_init_13 rfl (lv_at hl 0 rfl) ?_
  refine lv_bipush (v := 12) hx hb dX6_init_14 (by decide) ?_
  refine va_newa (atype := .int) (ty := .int) (N' := 12) (a0 := (12, (.inl (fun _ => 0)))) hx hb (hts (.arrayClass .int) (by decide +kernel)) rfl hK hP hD hS hA (fun _ => rfl) (by decide) (by decide) (Nat.le_of_ble_eq_true rfl) (Nat.le_of_ble_eq_true rfl) (Nat.le_of_ble_eq_true rfl) dX6_init_16 (fun q_2 cA H hKn hP hD hS => ?_)
  obtain rfl : cI = cA := nk_same hK hKn 1 rfl (fun h => h) (fun h => h)
  have hP : va_P (dC, dI) vwCl [(h0, .inr (6, [.null, .ref q_1, .null, .int 0])), (q_1, .inl (cI, 528, (.inl (fun _ => 0)))), (q_2, .inl (cI, 12, (.inl (fun _ => 0))))] H := hP
  have hD : va_D A [(h0, .inr (6, [.null, .ref q_1, .null, .int 0])), (q_1, .inl (cI, 528, (.inl (fun _ => 0)))), (q_2, .inl (cI, 12, (.inl (fun _ => 0))))] := hD
  refine W.widen (k := 2) (n := 540) (Nat.le_of_ble_eq_true rfl) (Nat.le_of_ble_eq_true rfl) ?_
  refine va_putF (D := (dC, dI)) (ci := 6) (v := .ref q_2) (ty := (.array .int)) (C := RX6) (T := TX6) (N := 4) hx hb hts hiX6 tyX6 tyX6_ok nmX6 hown hK hP hD hS 0 rfl rfl 2 (by decide) (hts (.fieldLink RX6 17 "ScissorsTable$Shreds" "whole" "[I") (by decide +kernel)) (fun _ h9 => h9) rfl hin rfl (by decide +kernel) rfl rfl (Nat.le_of_ble_eq_true rfl) dX6_init_18 (fun H locs hP hD hS => ?_)
  have hP : va_P (dC, dI) vwCl [(h0, .inr (6, [.null, .ref q_1, .ref q_2, .int 0])), (q_1, .inl (cI, 528, (.inl (fun _ => 0)))), (q_2, .inl (cI, 12, (.inl (fun _ => 0))))] H := hP
  have hD : va_D A [(h0, .inr (6, [.null, .ref q_1, .ref q_2, .int 0])), (q_1, .inl (cI, 528, (.inl (fun _ => 0)))), (q_2, .inl (cI, 12, (.inl (fun _ => 0))))] := hD
  refine lv_aload_n hx hb dX6_init_21 rfl (lv_at hl 0 rfl) ?_
  refine lv_aload_n hx hb dX6_init_22 rfl (lv_at hl 1 rfl) ?_
  refine va_putF (D := (dC, dI)) (ci := 6) (v := .ref k1) (ty := (.object "ScissorsTable$Inside")) (C := RX6) (T := TX6) (N := 4) hx hb hts hiX6 tyX6 tyX6_ok nmX6 hown hK hP hD hS 0 rfl rfl 0 (by decide) (hts (.fieldLink RX6 20 "ScissorsTable$Shreds" "inside" "LScissorsTable$Inside;") (by decide +kernel)) (fun _ h9 => h9) rfl hin rfl (by decide +kernel) rfl rfl (Nat.le_of_ble_eq_true rfl) dX6_init_23 (fun H locs hP hD hS => ?_)
  have hP : va_P (dC, dI) vwCl [(h0, .inr (6, [.ref k1, .ref q_1, .ref q_2, .int 0])), (q_1, .inl (cI, 528, (.inl (fun _ => 0)))), (q_2, .inl (cI, 12, (.inl (fun _ => 0))))] H := hP
  have hD : va_D A [(h0, .inr (6, [.ref k1, .ref q_1, .ref q_2, .int 0])), (q_1, .inl (cI, 528, (.inl (fun _ => 0)))), (q_2, .inl (cI, 12, (.inl (fun _ => 0))))] := hD
  have hP9 := hP.sub (ws' := [(h0, .inr (6, [.ref k1, .ref q_1, .ref q_2, .int 0])), (q_1, .inl (cI, 528, (.inl (fun _ => 0)))), (q_2, .inl (cI, 12, (.inl (fun _ => 0))))]) [0, 1, 2] rfl
  have hD9 := hD.sub (ws' := [(h0, .inr (6, [.ref k1, .ref q_1, .ref q_2, .int 0])), (q_1, .inl (cI, 528, (.inl (fun _ => 0)))), (q_2, .inl (cI, 12, (.inl (fun _ => 0))))]) [0, 1, 2] (by decide) rfl
  refine W.widen (k := 2) (n := 540) (Nat.le_of_ble_eq_true rfl) (Nat.le_of_ble_eq_true rfl) ?_
  exact W.vret hx hb hr (fun t ht hW => ⟨⟨(), rfl, trivial, q_1, q_2, by rw [ht]; exact hP9, va_K.moved hW.alike hK, hD9⟩, hS.F ht⟩) hS.2.2 dX6_init_26
