set_option maxRecDepth 20000 in
theorem ggX10_hangSolids_X3_begin : GoodIn wsX10_hangSolids wsX3_begin := goodIn_r _ [7, 8, 9, 10, 63, 64, 65, 66, 67, 68, 69] (by decide +kernel) (by decide +kernel)
set_option maxRecDepth 20000 in
theorem gX10_hangSolids_X3_begin : GoodIn wsX10_hangSolids (wsV RX10 395 RX3 yX3_begin wsX3_begin) := goodIn_app (goodIn_of _ (by decide +kernel)) ggX10_hangSolids_X3_begin
set_option maxRecDepth 20000 in
theorem ggX10_hangSolids_X3_next : GoodIn wsX10_hangSolids wsX3_next := goodIn_r _ [14, 9, 8, 15, 16, 17, 10, 18, 19, 20, 6, 21, 22, 23, 24, 25, 26, 27, 28, 29, 30, 31, 32, 33, 34, 35, 36, 37, 38, 39, 40, 41, 42, 43, 44, 45, 46, 47, 48, 49, 63, 64, 65, 66, 67, 68, 69, 70, 71, 72, 73] (by decide +kernel) (by decide +kernel)
set_option maxRecDepth 20000 in
theorem gX10_hangSolids_X3_next : GoodIn wsX10_hangSolids (wsV RX10 396 RX3 yX3_next wsX3_next) := goodIn_app (goodIn_of _ (by decide +kernel)) ggX10_hangSolids_X3_next
theorem dX10_hangSolids_0 : decode cX10_hangSolids 0 = .ok (.aload_n 0, 1) := by decide +kernel
theorem dX10_hangSolids_1 : decode cX10_hangSolids 1 = .ok (.getfield 61, 3) := by decide +kernel
theorem dX10_hangSolids_4 : decode cX10_hangSolids 4 = .ok (.invokevirtual 395, 3) := by decide +kernel
theorem dX10_hangSolids_7 : decode cX10_hangSolids 7 = .ok (.iconst 0, 1) := by decide +kernel
theorem dX10_hangSolids_8 : decode cX10_hangSolids 8 = .ok (.istore_n 2, 1) := by decide +kernel
theorem dX10_hangSolids_9 : decode cX10_hangSolids 9 = .ok (.iload_n 2, 1) := by decide +kernel
theorem dX10_hangSolids_10 : decode cX10_hangSolids 10 = .ok (.iconst 4, 1) := by decide +kernel
theorem dX10_hangSolids_11 : decode cX10_hangSolids 11 = .ok (.if_icmp .ge 30, 3) := by decide +kernel
theorem dX10_hangSolids_14 : decode cX10_hangSolids 14 = .ok (.iload_n 1, 1) := by decide +kernel
theorem dX10_hangSolids_15 : decode cX10_hangSolids 15 = .ok (.iload_n 2, 1) := by decide +kernel
theorem dX10_hangSolids_16 : decode cX10_hangSolids 16 = .ok (.ishr, 1) := by decide +kernel
theorem dX10_hangSolids_17 : decode cX10_hangSolids 17 = .ok (.iconst 1, 1) := by decide +kernel
theorem dX10_hangSolids_18 : decode cX10_hangSolids 18 = .ok (.iand, 1) := by decide +kernel
theorem dX10_hangSolids_19 : decode cX10_hangSolids 19 = .ok (.iconst 1, 1) := by decide +kernel
theorem dX10_hangSolids_20 : decode cX10_hangSolids 20 = .ok (.if_icmp .ne 15, 3) := by decide +kernel
theorem dX10_hangSolids_23 : decode cX10_hangSolids 23 = .ok (.aload_n 0, 1) := by decide +kernel
theorem dX10_hangSolids_24 : decode cX10_hangSolids 24 = .ok (.getfield 61, 3) := by decide +kernel
theorem dX10_hangSolids_27 : decode cX10_hangSolids 27 = .ok (.aload_n 0, 1) := by decide +kernel
theorem dX10_hangSolids_28 : decode cX10_hangSolids 28 = .ok (.getfield 51, 3) := by decide +kernel
theorem dX10_hangSolids_31 : decode cX10_hangSolids 31 = .ok (.iload_n 2, 1) := by decide +kernel
theorem dX10_hangSolids_32 : decode cX10_hangSolids 32 = .ok (.invokevirtual 396, 3) := by decide +kernel
theorem dX10_hangSolids_35 : decode cX10_hangSolids 35 = .ok (.iinc 2 1, 3) := by decide +kernel
theorem dX10_hangSolids_38 : decode cX10_hangSolids 38 = .ok (.goto (-29), 3) := by decide +kernel
theorem dX10_hangSolids_41 : decode cX10_hangSolids 41 = .ok (.return_, 1) := by decide +kernel
set_option maxHeartbeats 4000000 in
set_option maxRecDepth 100000 in
theorem c_X10_hangSolids_0 (l : Launch) (dC : Nat → ClassId) (dI : Nat → Nat → Nat) (cB cI cJ : ClassId) (sz : Nat) (x0 xTape xReader xBag xBld xAng xSum xPik xHan xIns xShr xSta xTur hH hR hT hM : Nat) : Met l yX10_hangSolids wsX10_hangSolids ({ frames := 2, cells := 0, slots := 0, locals := 44 }) (va_Pc [.ref x0, .int 0] (fun U => U.heap.size = sz ∧ va_P (dC, dI) vwCl [(x0, .inr (10, [.ref xTape, .ref xReader, .ref xBag, .ref xBld, .ref xAng, .ref xSum, .ref xPik, .int 0, .ref xHan, .ref xIns, .ref xShr, .ref xSta, .ref xTur])), (xHan, .inr (3, [.int 0, .int 0, .int 0, .ref hH, .ref hR, .ref hT, .ref hM]))] U.heap ∧ va_K (dC, dI) vwCl [(cB, .byte), (cI, .int), (cJ, .long)] U ∧ va_D (fun _ => True) [(x0, .inr (10, [.ref xTape, .ref xReader, .ref xBag, .ref xBld, .ref xAng, .ref xSum, .ref xPik, .int 0, .ref xHan, .ref xIns, .ref xShr, .ref xSta, .ref xTur])), (xHan, .inr (3, [.int 0, .int 0, .int 0, .ref hH, .ref hR, .ref hT, .ref hM]))])) (va_Qv (fun _ : Unit => True) (fun _ t => va_P (dC, dI) vwCl [(x0, .inr (10, [.ref xTape, .ref xReader, .ref xBag, .ref xBld, .ref xAng, .ref xSum, .ref xPik, .int 0, .ref xHan, .ref xIns, .ref xShr, .ref xSta, .ref xTur])), (xHan, .inr (3, [.int 0, .int 0, .int 0, .ref hH, .ref hR, .ref hT, .ref hM]))] t.heap ∧ va_K (dC, dI) vwCl [(cB, .byte), (cI, .int), (cJ, .long)] t ∧ va_D (va_A [(x0, .inr (10, [.ref xTape, .ref xReader, .ref xBag, .ref xBld, .ref xAng, .ref xSum, .ref xPik, .int 0, .ref xHan, .ref xIns, .ref xShr, .ref xSta, .ref xTur])), (xHan, .inr (3, [.int 0, .int 0, .int 0, .ref hH, .ref hR, .ref hT, .ref hM]))] sz) [(x0, .inr (10, [.ref xTape, .ref xReader, .ref xBag, .ref xBld, .ref xAng, .ref xSum, .ref xPik, .int 0, .ref xHan, .ref xIns, .ref xShr, .ref xSta, .ref xTur])), (xHan, .inr (3, [.int 0, .int 0, .int 0, .ref hH, .ref hR, .ref hT, .ref hM]))]) (va_A [(x0, .inr (10, [.ref xTape, .ref xReader, .ref xBag, .ref xBld, .ref xAng, .ref xSum, .ref xPik, .int 0, .ref xHan, .ref xIns, .ref xShr, .ref xSta, .ref xTur])), (xHan, .inr (3, [.int 0, .int 0, .int 0, .ref hH, .ref hR, .ref hT, .ref hM]))] sz)) 0 0 (va_A [(x0, .inr (10, [.ref xTape, .ref xReader, .ref xBag, .ref xBld, .ref xAng, .ref xSum, .ref xPik, .int 0, .ref xHan, .ref xIns, .ref xShr, .ref xSta, .ref xTur])), (xHan, .inr (3, [.int 0, .int 0, .int 0, .ref hH, .ref hR, .ref hT, .ref hM]))] sz) := by
  refine Met.ofW (cc := cX10_hangSolids) (maxL := 3) (ret := none) (by decide) rfl ?_
  intro p e s m args below meth c s₁ B hml hv
  obtain ⟨rfl, hsz, hP, hK, hD0⟩ := hv
  have hx := B.exec
  have hb := B.bytes
  have hr := B.returns
  have hts := atoms_spec (ws := wsX10_hangSolids) B.pre
  have hown : s.vm.findClass RX10 = some m.cls := findClass_of_methodNamed B.named
  have hlocks := B.notSynchronized
  have hiX10 : ∀ w ∈ u_ws RX10 TX10 13, w ∈ wsX10_hangSolids := by decide +kernel
  subst hsz
  have hD := hD0.self (sz := s.heap.size)
  generalize hAe : va_A [(x0, .inr (10, [.ref xTape, .ref xReader, .ref xBag, .ref xBld, .ref xAng, .ref xSum, .ref xPik, .int 0, .ref xHan, .ref xIns, .ref xShr, .ref xSta, .ref xTur])), (xHan, .inr (3, [.int 0, .int 0, .int 0, .ref hH, .ref hR, .ref hT, .ref hM]))] s.heap.size = A at hD ⊢
  have hA : ∀ q : Nat, s.heap.size ≤ q → A q := fun q h => by rw [← hAe]; exact Or.inr h
  have hS : va_S A s.heap s.heap [] := va_S.rf
  have hP : va_P (dC, dI) vwCl [(x0, .inr (10, [.ref xTape, .ref xReader, .ref xBag, .ref xBld, .ref xAng, .ref xSum, .ref xPik, .int 0, .ref xHan, .ref xIns, .ref xShr, .ref xSta, .ref xTur])), (xHan, .inr (3, [.int 0, .int 0, .int 0, .ref hH, .ref hR, .ref hT, .ref hM]))] s.heap := hP
  have hl := lv_entry ([.ref x0, .int 0]) (n := 3) (Nat.le_of_ble_eq_true rfl)
  rw [lg_entry_eq]
  generalize (lg_sl ([.ref x0, .int 0]) ++ List.replicate (3 - (lg_sl ([.ref x0, .int 0])).length) Slot.unset).toArray = ls at hl ⊢
  have hl : lv_has ls 3 [(0, .ref x0), (1, .int 0)] := hl
  refine lv_aload_n hx hb dX10_hangSolids_0 rfl (lv_at hl 0 rfl) ?_
  refine va_get (D := (dC, dI)) (ci := 10) (v := .ref xHan) (C := RX10) (T := TX10) (N := 13) hx hb hts hiX10 hown hK hP 0 rfl rfl 8 (by decide) (hts (.fieldLink RX10 61 "ScissorsTable" "hang" "LScissorsTable$Hang;") (by decide +kernel)) (fun _ h9 => h9) rfl dX10_hangSolids_1 ?_
  have hPc := hP.sub (ws' := [(xHan, .inr (3, [.int 0, .int 0, .int 0, .ref hH, .ref hR, .ref hT, .ref hM]))]) [1] rfl
  have hDc := hD.sub (ws' := [(xHan, .inr (3, [.int 0, .int 0, .int 0, .ref hH, .ref hR, .ref hT, .ref hM]))]) [1] (by decide) rfl
  have hFc := va_free (wc := [(xHan, .inr (3, [.int 0, .int 0, .int 0, .ref hH, .ref hR, .ref hT, .ref hM]))]) hD hS hA [1] rfl
  refine va_callv (va_runV (As := []) (rest := []) ⟨hx, hb, hml, hown, hts⟩ (c_X3_begin l dC dI cB cI cJ s.heap.size xHan hH hR hT hM) (cwV 0 hts gX10_hangSolids_X3_begin rfl rfl rfl (by decide +kernel) ⟨Nat.le_of_ble_eq_true rfl, Nat.le_of_ble_eq_true rfl⟩) ⟨fun a U g mk q => by obtain ⟨q0, q1, qP, qK, qD⟩ := q; exact ⟨q0, q1, qP, va_K.moved (u := U) (U := U.calling g mk a) (Vm.Alike.refl U.vm) qK, qD⟩, va_recv hK hP (ci := 3) (q0 := 1) rfl rfl, fun U hU hW => ⟨rfl, by rw [hU], by rw [hU]; exact hPc, va_K.moved hW.alike hK, hDc.weaken (fun _ _ _ _ => trivial)⟩⟩ rfl rfl hl.1 rfl (lv_room (Nat.le_of_ble_eq_true rfl)) dX10_hangSolids_4 ⟨Nat.le_of_ble_eq_true rfl, Nat.le_of_ble_eq_true rfl⟩) hS (fun q _ h => hFc q h) hFc (fun u t H1 locs ht hvm hw hB hz1 hk1 hS => ?_)
  obtain ⟨hP1, hK1, hD1⟩ := hB
  rw [ht] at hP1
  obtain ⟨hP, hD⟩ := va_join (wr := [(x0, .inr (10, [.ref xTape, .ref xReader, .ref xBag, .ref xBld, .ref xAng, .ref xSum, .ref xPik, .int 0, .ref xHan, .ref xIns, .ref xShr, .ref xSta, .ref xTur]))]) (w1 := [(xHan, .inr (3, [.int 0, .int 0, .int 0, .ref hH, .ref hR, .ref hT, .ref hM]))]) hP hD [1] [0] rfl rfl (by decide) (by decide) hk1 hFc hP1 hD1
  generalize H1 = H at hP hS ⊢
  have hP : va_P (dC, dI) vwCl [(x0, .inr (10, [.ref xTape, .ref xReader, .ref xBag, .ref xBld, .ref xAng, .ref xSum, .ref xPik, .int 0, .ref xHan, .ref xIns, .ref xShr, .ref xSta, .ref xTur])), (xHan, .inr (3, [.int 0, .int 0, .int 0, .ref hH, .ref hR, .ref hT, .ref hM]))] H := hP
  have hD : va_D A [(x0, .inr (10, [.ref xTape, .ref xReader, .ref xBag, .ref xBld, .ref xAng, .ref xSum, .ref xPik, .int 0, .ref xHan, .ref xIns, .ref xShr, .ref xSta, .ref xTur])), (xHan, .inr (3, [.int 0, .int 0, .int 0, .ref hH, .ref hR, .ref hT, .ref hM]))] := hD
  refine lv_iconst (v := 0) hx hb dX10_hangSolids_7 (by decide) ?_
  refine lv_istore_n (lv' := [(2, .int 0), (0, .ref x0), (1, .int 0)]) hx hb dX10_hangSolids_8 rfl hl (by decide) rfl (fun ls hl => ?_)
  refine lv_iload_n hx hb dX10_hangSolids_9 rfl (lv_at hl 0 rfl) ?_
  refine lv_iconst (v := 4) hx hb dX10_hangSolids_10 (by decide) ?_
  refine lv_icmp_ge (tgt := 41) hx hb dX10_hangSolids_11 (by decide) (fun c => absurd c (by decide)) (fun _ => ?_)
  refine lv_iload_n hx hb dX10_hangSolids_14 rfl (lv_at hl 2 rfl) ?_
  refine lv_iload_n hx hb dX10_hangSolids_15 rfl (lv_at hl 0 rfl) ?_
  refine lv_ishr hx hb dX10_hangSolids_16 ?_
  refine lv_topi (fun x_1 ex_1 => ?_)
  obtain rfl : x_1 = 0 := ex_1.trans (by first | rfl | decide)
  refine lv_iconst (v := 1) hx hb dX10_hangSolids_17 (by decide) ?_
  refine lv_iand hx hb dX10_hangSolids_18 ?_
  refine lv_topi (fun x_2 ex_2 => ?_)
  obtain rfl : x_2 = 0 := ex_2.trans (by first | rfl | decide)
  refine lv_iconst (v := 1) hx hb dX10_hangSolids_19 (by decide) ?_
  refine lv_icmp_ne (tgt := 35) hx hb dX10_hangSolids_20 (by decide) (fun _ => ?_) (fun c => absurd c (by decide))
  refine lv_iinc (v := 1) (lv' := [(2, .int 1), (0, .ref x0), (1, .int 0)]) hx hb dX10_hangSolids_35 hl (k := 0) rfl (by decide) (by decide) rfl (fun ls hl => ?_)
  refine lv_goto (tgt := 9) hx hb dX10_hangSolids_38 (by decide) ?_
  refine lv_iload_n hx hb dX10_hangSolids_9 rfl (lv_at hl 0 rfl) ?_
  refine lv_iconst (v := 4) hx hb dX10_hangSolids_10 (by decide) ?_
  refine lv_icmp_ge (tgt := 41) hx hb dX10_hangSolids_11 (by decide) (fun c => absurd c (by decide)) (fun _ => ?_)
  refine lv_iload_n hx hb dX10_hangSolids_14 rfl (lv_at hl 2 rfl) ?_
  refine lv_iload_n hx hb dX10_hangSolids_15 rfl (lv_at hl 0 rfl) ?_
  refine lv_ishr hx hb dX10_hangSolids_16 ?_
  refine lv_topi (fun x_3 ex_3 => ?_)
  obtain rfl : x_3 = 0 := ex_3.trans (by first | rfl | decide)
  refine lv_iconst (v := 1) hx hb dX10_hangSolids_17 (by decide) ?_
  refine lv_iand hx hb dX10_hangSolids_18 ?_
  refine lv_topi (fun x_4 ex_4 => ?_)
  obtain rfl : x_4 = 0 := ex_4.trans (by first | rfl | decide)
  refine lv_iconst (v := 1) hx hb dX10_hangSolids_19 (by decide) ?_
  refine lv_icmp_ne (tgt := 35) hx hb dX10_hangSolids_20 (by decide) (fun _ => ?_) (fun c => absurd c (by decide))
  refine lv_iinc (v := 2) (lv' := [(2, .int 2), (0, .ref x0), (1, .int 0)]) hx hb dX10_hangSolids_35 hl (k := 0) rfl (by decide) (by decide) rfl (fun ls hl => ?_)
  refine lv_goto (tgt := 9) hx hb dX10_hangSolids_38 (by decide) ?_
  refine lv_iload_n hx hb dX10_hangSolids_9 rfl (lv_at hl 0 rfl) ?_
  refine lv_iconst (v := 4) hx hb dX10_hangSolids_10 (by decide) ?_
  refine lv_icmp_ge (tgt := 41) hx hb dX10_hangSolids_11 (by decide) (fun c => absurd c (by decide)) (fun _ => ?_)
  refine lv_iload_n hx hb dX10_hangSolids_14 rfl (lv_at hl 2 rfl) ?_
  refine lv_iload_n hx hb dX10_hangSolids_15 rfl (lv_at hl 0 rfl) ?_
  refine lv_ishr hx hb dX10_hangSolids_16 ?_
  refine lv_topi (fun x_5 ex_5 => ?_)
  obtain rfl : x_5 = 0 := ex_5.trans (by first | rfl | decide)
  refine lv_iconst (v := 1) hx hb dX10_hangSolids_17 (by decide) ?_
  refine lv_iand hx hb dX10_hangSolids_18 ?_
  refine lv_topi (fun x_6 ex_6 => ?_)
  obtain rfl : x_6 = 0 := ex_6.trans (by first | rfl | decide)
  refine lv_iconst (v := 1) hx hb dX10_hangSolids_19 (by decide) ?_
  refine lv_icmp_ne (tgt := 35) hx hb dX10_hangSolids_20 (by decide) (fun _ => ?_) (fun c => absurd c (by decide))
  refine lv_iinc (v := 3) (lv' := [(2, .int 3), (0, .ref x0), (1, .int 0)]) hx hb dX10_hangSolids_35 hl (k := 0) rfl (by decide) (by decide) rfl (fun ls hl => ?_)
  refine lv_goto (tgt := 9) hx hb dX10_hangSolids_38 (by decide) ?_
  refine lv_iload_n hx hb dX10_hangSolids_9 rfl (lv_at hl 0 rfl) ?_
  refine lv_iconst (v := 4) hx hb dX10_hangSolids_10 (by decide) ?_
  refine lv_icmp_ge (tgt := 41) hx hb dX10_hangSolids_11 (by decide) (fun c => absurd c (by decide)) (fun _ => ?_)
  refine lv_iload_n hx hb dX10_hangSolids_14 rfl (lv_at hl 2 rfl) ?_
  refine lv_iload_n hx hb dX10_hangSolids_15 rfl (lv_at hl 0 rfl) ?_
  refine lv_ishr hx hb dX10_hangSolids_16 ?_
  refine lv_topi (fun x_7 ex_7 => ?_)
  obtain rfl : x_7 = 0 := ex_7.trans (by first | rfl | decide)
  refine lv_iconst (v := 1) hx hb dX10_hangSolids_17 (by decide) ?_
  refine lv_iand hx hb dX10_hangSolids_18 ?_
  refine lv_topi (fun x_8 ex_8 => ?_)
  obtain rfl : x_8 = 0 := ex_8.trans (by first | rfl | decide)
  refine lv_iconst (v := 1) hx hb dX10_hangSolids_19 (by decide) ?_
  refine lv_icmp_ne (tgt := 35) hx hb dX10_hangSolids_20 (by decide) (fun _ => ?_) (fun c => absurd c (by decide))
  refine lv_iinc (v := 4) (lv' := [(2, .int 4), (0, .ref x0), (1, .int 0)]) hx hb dX10_hangSolids_35 hl (k := 0) rfl (by decide) (by decide) rfl (fun ls hl => ?_)
  refine lv_goto (tgt := 9) hx hb dX10_hangSolids_38 (by decide) ?_
  refine lv_iload_n hx hb dX10_hangSolids_9 rfl (lv_at hl 0 rfl) ?_
  refine lv_iconst (v := 4) hx hb dX10_hangSolids_10 (by decide) ?_
  refine lv_icmp_ge (tgt := 41) hx hb dX10_hangSolids_11 (by decide) (fun _ => ?_) (fun c => absurd (by decide) c)
  have hP9 := hP.sub (ws' := [(x0, .inr (10, [.ref xTape, .ref xReader, .ref xBag, .ref xBld, .ref xAng, .ref xSum, .ref xPik, .int 0, .ref xHan, .ref xIns, .ref xShr, .ref xSta, .ref xTur])), (xHan, .inr (3, [.int 0, .int 0, .int 0, .ref hH, .ref hR, .ref hT, .ref hM]))]) [0, 1] rfl
  have hD9 := hD.sub (ws' := [(x0, .inr (10, [.ref xTape, .ref xReader, .ref xBag, .ref xBld, .ref xAng, .ref xSum, .ref xPik, .int 0, .ref xHan, .ref xIns, .ref xShr, .ref xSta, .ref xTur])), (xHan, .inr (3, [.int 0, .int 0, .int 0, .ref hH, .ref hR, .ref hT, .ref hM]))]) [0, 1] (by decide) rfl
  refine W.widen (k := 0) (n := 0) (Nat.le_of_ble_eq_true rfl) (Nat.le_of_ble_eq_true rfl) ?_
  exact W.vret hx hb hr (fun t ht hW => ⟨⟨(), rfl, trivial, by rw [ht]; exact hP9, va_K.moved hW.alike hK, hD9⟩, hS.F ht⟩) hS.2.2 dX10_hangSolids_41
set_option maxHeartbeats 4000000 in
set_option maxRecDepth 100000 in
theorem c_X10_hangSolids_1 (l : Launch) (dC : Nat → ClassId) (dI : Nat → Nat → Nat) (cB cI cJ : ClassId) (sz : Nat) (x0 xTape xReader xBag xBld xAng xSum xPik xHan xIns xShr xSta xTur sM sP sA hH hR hT hM : Nat) (fh : Nat → Int32) (ft : Nat → Int64) : Met l yX10_hangSolids wsX10_hangSolids ({ frames := 5, cells := 0, slots := 0, locals := 118 }) (va_Pc [.ref x0, .int 1] (fun U => U.heap.size = sz ∧ va_P (dC, dI) vwCl [(x0, .inr (10, [.ref xTape, .ref xReader, .ref xBag, .ref xBld, .ref xAng, .ref xSum, .ref xPik, .int 0, .ref xHan, .ref xIns, .ref xShr, .ref xSta, .ref xTur])), (xSum, .inr (8, [.ref sM, .ref sP, .ref sA, .int 0])), (xHan, .inr (3, [.int 0, .int 0, .int 0, .ref hH, .ref hR, .ref hT, .ref hM])), (hH, .inl (cI, 7, (.inl fh))), (hT, .inl (cJ, 7, (.inr (.inl ft)))), (hM, .inl (cJ, 6, (.inr (.inl (fun _ => 0)))))] U.heap ∧ va_K (dC, dI) vwCl [(cB, .byte), (cI, .int), (cJ, .long)] U ∧ va_D (fun _ => True) [(x0, .inr (10, [.ref xTape, .ref xReader, .ref xBag, .ref xBld, .ref xAng, .ref xSum, .ref xPik, .int 0, .ref xHan, .ref xIns, .ref xShr, .ref xSta, .ref xTur])), (xSum, .inr (8, [.ref sM, .ref sP, .ref sA, .int 0])), (xHan, .inr (3, [.int 0, .int 0, .int 0, .ref hH, .ref hR, .ref hT, .ref hM])), (hH, .inl (cI, 7, (.inl fh))), (hT, .inl (cJ, 7, (.inr (.inl ft)))), (hM, .inl (cJ, 6, (.inr (.inl (fun _ => 0)))))] ∧ va_Nw (.methodLinkNest RX3 62 yX10_gcd "ScissorsTable") U)) (va_Qv (fun _ : Unit => True) (fun _ t => va_P (dC, dI) vwCl [(x0, .inr (10, [.ref xTape, .ref xReader, .ref xBag, .ref xBld, .ref xAng, .ref xSum, .ref xPik, .int 0, .ref xHan, .ref xIns, .ref xShr, .ref xSta, .ref xTur])), (xHan, .inr (3, [.int 0, .int 1, .int 1, .ref hH, .ref hR, .ref hT, .ref hM])), (xSum, .inr (8, [.ref sM, .ref sP, .ref sA, .int 0])), (hH, .inl (cI, 7, (.inl (upd fh (0 : Int32).toNatClampNeg 0)))), (hT, .inl (cJ, 7, (.inr (.inl (vp_updL ft (0 : Int32).toNatClampNeg 1))))), (hM, .inl (cJ, 6, (.inr (.inl (vp_updL (fun _ => 0) (0 : Int32).toNatClampNeg 1)))))] t.heap ∧ va_K (dC, dI) vwCl [(cB, .byte), (cI, .int), (cJ, .long)] t ∧ va_D (va_A [(x0, .inr (10, [.ref xTape, .ref xReader, .ref xBag, .ref xBld, .ref xAng, .ref xSum, .ref xPik, .int 0, .ref xHan, .ref xIns, .ref xShr, .ref xSta, .ref xTur])), (xSum, .inr (8, [.ref sM, .ref sP, .ref sA, .int 0])), (xHan, .inr (3, [.int 0, .int 0, .int 0, .ref hH, .ref hR, .ref hT, .ref hM])), (hH, .inl (cI, 7, (.inl fh))), (hT, .inl (cJ, 7, (.inr (.inl ft)))), (hM, .inl (cJ, 6, (.inr (.inl (fun _ => 0)))))] sz) [(x0, .inr (10, [.ref xTape, .ref xReader, .ref xBag, .ref xBld, .ref xAng, .ref xSum, .ref xPik, .int 0, .ref xHan, .ref xIns, .ref xShr, .ref xSta, .ref xTur])), (xHan, .inr (3, [.int 0, .int 1, .int 1, .ref hH, .ref hR, .ref hT, .ref hM])), (xSum, .inr (8, [.ref sM, .ref sP, .ref sA, .int 0])), (hH, .inl (cI, 7, (.inl (upd fh (0 : Int32).toNatClampNeg 0)))), (hT, .inl (cJ, 7, (.inr (.inl (vp_updL ft (0 : Int32).toNatClampNeg 1))))), (hM, .inl (cJ, 6, (.inr (.inl (vp_updL (fun _ => 0) (0 : Int32).toNatClampNeg 1)))))]) (va_A [(x0, .inr (10, [.ref xTape, .ref xReader, .ref xBag, .ref xBld, .ref xAng, .ref xSum, .ref xPik, .int 0, .ref xHan, .ref xIns, .ref xShr, .ref xSta, .ref xTur])), (xSum, .inr (8, [.ref sM, .ref sP, .ref sA, .int 0])), (xHan, .inr (3, [.int 0, .int 0, .int 0, .ref hH, .ref hR, .ref hT, .ref hM])), (hH, .inl (cI, 7, (.inl fh))), (hT, .inl (cJ, 7, (.inr (.inl ft)))), (hM, .inl (cJ, 6, (.inr (.inl (fun _ => 0)))))] sz)) 0 0 (va_A [(x0, .inr (10, [.ref xTape, .ref xReader, .ref xBag, .ref xBld, .ref xAng, .ref xSum, .ref xPik, .int 0, .ref xHan, .ref xIns, .ref xShr, .ref xSta, .ref xTur])), (xSum, .inr (8, [.ref sM, .ref sP, .ref sA, .int 0])), (xHan, .inr (3, [.int 0, .int 0, .int 0, .ref hH, .ref hR, .ref hT, .ref hM])), (hH, .inl (cI, 7, (.inl fh))), (hT, .inl (cJ, 7, (.inr (.inl ft)))), (hM, .inl (cJ, 6, (.inr (.inl (fun _ => 0)))))] sz) := by
  refine Met.ofW (cc := cX10_hangSolids) (maxL := 3) (ret := none) (by decide) rfl ?_
  intro p e s m args below meth c s₁ B hml hv
  obtain ⟨rfl, hsz, hP, hK, hD0, hN0⟩ := hv
  have hx := B.exec
  have hb := B.bytes
  have hr := B.returns
  have hts := atoms_spec (ws := wsX10_hangSolids) B.pre
  have hown : s.vm.findClass RX10 = some m.cls := findClass_of_methodNamed B.named
  have hlocks := B.notSynchronized
  have hiX10 : ∀ w ∈ u_ws RX10 TX10 13, w ∈ wsX10_hangSolids := by decide +kernel
  subst hsz
  have hD := hD0.self (sz := s.heap.size)
  generalize hAe : va_A [(x0, .inr (10, [.ref xTape, .ref xReader, .ref xBag, .ref xBld, .ref xAng, .ref xSum, .ref xPik, .int 0, .ref xHan, .ref xIns, .ref xShr, .ref xSta, .ref xTur])), (xSum, .inr (8, [.ref sM, .ref sP, .ref sA, .int 0])), (xHan, .inr (3, [.int 0, .int 0, .int 0, .ref hH, .ref hR, .ref hT, .ref hM])), (hH, .inl (cI, 7, (.inl fh))), (hT, .inl (cJ, 7, (.inr (.inl ft)))), (hM, .inl (cJ, 6, (.inr (.inl (fun _ => 0)))))] s.heap.size = A at hD ⊢
  have hA : ∀ q : Nat, s.heap.size ≤ q → A q := fun q h => by rw [← hAe]; exact Or.inr h
  have hS : va_S A s.heap s.heap [] := va_S.rf
  have hP : va_P (dC, dI) vwCl [(x0, .inr (10, [.ref xTape, .ref xReader, .ref xBag, .ref xBld, .ref xAng, .ref xSum, .ref xPik, .int 0, .ref xHan, .ref xIns, .ref xShr, .ref xSta, .ref xTur])), (xSum, .inr (8, [.ref sM, .ref sP, .ref sA, .int 0])), (xHan, .inr (3, [.int 0, .int 0, .int 0, .ref hH, .ref hR, .ref hT, .ref hM])), (hH, .inl (cI, 7, (.inl fh))), (hT, .inl (cJ, 7, (.inr (.inl ft)))), (hM, .inl (cJ, 6, (.inr (.inl (fun _ => 0)))))] s.heap := hP
  have hl := lv_entry ([.ref x0, .int 1]) (n := 3) (Nat.le_of_ble_eq_true rfl)
  rw [lg_entry_eq]
  generalize (lg_sl ([.ref x0, .int 1]) ++ List.replicate (3 - (lg_sl ([.ref x0, .int 1])).length) Slot.unset).toArray = ls at hl ⊢
  have hl : lv_has ls 3 [(0, .ref x0), (1, .int 1)] := hl
  refine lv_aload_n hx hb dX10_hangSolids_0 rfl (lv_at hl 0 rfl) ?_
  refine va_get (D := (dC, dI)) (ci := 10) (v := .ref xHan) (C := RX10) (T := TX10) (N := 13) hx hb hts hiX10 hown hK hP 0 rfl rfl 8 (by decide) (hts (.fieldLink RX10 61 "ScissorsTable" "hang" "LScissorsTable$Hang;") (by decide +kernel)) (fun _ h9 => h9) rfl dX10_hangSolids_1 ?_
  have hPc := hP.sub (ws' := [(xHan, .inr (3, [.int 0, .int 0, .int 0, .ref hH, .ref hR, .ref hT, .ref hM]))]) [2] rfl
  have hDc := hD.sub (ws' := [(xHan, .inr (3, [.int 0, .int 0, .int 0, .ref hH, .ref hR, .ref hT, .ref hM]))]) [2] (by decide) rfl
  have hFc := va_free (wc := [(xHan, .inr (3, [.int 0, .int 0, .int 0, .ref hH, .ref hR, .ref hT, .ref hM]))]) hD hS hA [2] rfl
  refine va_callv (va_runV (As := []) (rest := []) ⟨hx, hb, hml, hown, hts⟩ (c_X3_begin l dC dI cB cI cJ s.heap.size xHan hH hR hT hM) (cwV 0 hts gX10_hangSolids_X3_begin rfl rfl rfl (by decide +kernel) ⟨Nat.le_of_ble_eq_true rfl, Nat.le_of_ble_eq_true rfl⟩) ⟨fun a U g mk q => by obtain ⟨q0, q1, qP, qK, qD⟩ := q; exact ⟨q0, q1, qP, va_K.moved (u := U) (U := U.calling g mk a) (Vm.Alike.refl U.vm) qK, qD⟩, va_recv hK hP (ci := 3) (q0 := 2) rfl rfl, fun U hU hW => ⟨rfl, by rw [hU], by rw [hU]; exact hPc, va_K.moved hW.alike hK, hDc.weaken (fun _ _ _ _ => trivial)⟩⟩ rfl rfl hl.1 rfl (lv_room (Nat.le_of_ble_eq_true rfl)) dX10_hangSolids_4 ⟨Nat.le_of_ble_eq_true rfl, Nat.le_of_ble_eq_true rfl⟩) hS (fun q _ h => hFc q h) hFc (fun u t H1 locs ht hvm hw hB hz1 hk1 hS => ?_)
  obtain ⟨hP1, hK1, hD1⟩ := hB
  rw [ht] at hP1
  obtain ⟨hP, hD⟩ := va_join (wr := [(x0, .inr (10, [.ref xTape, .ref xReader, .ref xBag, .ref xBld, .ref xAng, .ref xSum, .ref xPik, .int 0, .ref xHan, .ref xIns, .ref xShr, .ref xSta, .ref xTur])), (xSum, .inr (8, [.ref sM, .ref sP, .ref sA, .int 0])), (hH, .inl (cI, 7, (.inl fh))), (hT, .inl (cJ, 7, (.inr (.inl ft)))), (hM, .inl (cJ, 6, (.inr (.inl (fun _ => 0)))))]) (w1 := [(xHan, .inr (3, [.int 0, .int 0, .int 0, .ref hH, .ref hR, .ref hT, .ref hM]))]) hP hD [2] [0, 1, 3, 4, 5] rfl rfl (by decide) (by decide) hk1 hFc hP1 hD1
  generalize H1 = H at hP hS ⊢
  have hP : va_P (dC, dI) vwCl [(x0, .inr (10, [.ref xTape, .ref xReader, .ref xBag, .ref xBld, .ref xAng, .ref xSum, .ref xPik, .int 0, .ref xHan, .ref xIns, .ref xShr, .ref xSta, .ref xTur])), (xSum, .inr (8, [.ref sM, .ref sP, .ref sA, .int 0])), (hH, .inl (cI, 7, (.inl fh))), (hT, .inl (cJ, 7, (.inr (.inl ft)))), (hM, .inl (cJ, 6, (.inr (.inl (fun _ => 0))))), (xHan, .inr (3, [.int 0, .int 0, .int 0, .ref hH, .ref hR, .ref hT, .ref hM]))] H := hP
  have hD : va_D A [(x0, .inr (10, [.ref xTape, .ref xReader, .ref xBag, .ref xBld, .ref xAng, .ref xSum, .ref xPik, .int 0, .ref xHan, .ref xIns, .ref xShr, .ref xSta, .ref xTur])), (xSum, .inr (8, [.ref sM, .ref sP, .ref sA, .int 0])), (hH, .inl (cI, 7, (.inl fh))), (hT, .inl (cJ, 7, (.inr (.inl ft)))), (hM, .inl (cJ, 6, (.inr (.inl (fun _ => 0))))), (xHan, .inr (3, [.int 0, .int 0, .int 0, .ref hH, .ref hR, .ref hT, .ref hM]))] := hD
  refine lv_iconst (v := 0) hx hb dX10_hangSolids_7 (by decide) ?_
  refine lv_istore_n (lv' := [(2, .int 0), (0, .ref x0), (1, .int 1)]) hx hb dX10_hangSolids_8 rfl hl (by decide) rfl (fun ls hl => ?_)
  refine lv_iload_n hx hb dX10_hangSolids_9 rfl (lv_at hl 0 rfl) ?_
  refine lv_iconst (v := 4) hx hb dX10_hangSolids_10 (by decide) ?_
  refine lv_icmp_ge (tgt := 41) hx hb dX10_hangSolids_11 (by decide) (fun c => absurd c (by decide)) (fun _ => ?_)
  refine lv_iload_n hx hb dX10_hangSolids_14 rfl (lv_at hl 2 rfl) ?_
  refine lv_iload_n hx hb dX10_hangSolids_15 rfl (lv_at hl 0 rfl) ?_
  refine lv_ishr hx hb dX10_hangSolids_16 ?_
  refine lv_topi (fun x_1 ex_1 => ?_)
  obtain rfl : x_1 = 1 := ex_1.trans (by first | rfl | decide)
  refine lv_iconst (v := 1) hx hb dX10_hangSolids_17 (by decide) ?_
  refine lv_iand hx hb dX10_hangSolids_18 ?_
  refine lv_topi (fun x_2 ex_2 => ?_)
  obtain rfl : x_2 = 1 := ex_2.trans (by first | rfl | decide)
  refine lv_iconst (v := 1) hx hb dX10_hangSolids_19 (by decide) ?_
  refine lv_icmp_ne (tgt := 35) hx hb dX10_hangSolids_20 (by decide) (fun c => absurd (by decide) c) (fun _ => ?_)
  refine lv_aload_n hx hb dX10_hangSolids_23 rfl (lv_at hl 1 rfl) ?_
  refine va_get (D := (dC, dI)) (ci := 10) (v := .ref xHan) (C := RX10) (T := TX10) (N := 13) hx hb hts hiX10 hown hK hP 0 rfl rfl 8 (by decide) (hts (.fieldLink RX10 61 "ScissorsTable" "hang" "LScissorsTable$Hang;") (by decide +kernel)) (fun _ h9 => h9) rfl dX10_hangSolids_24 ?_
  refine lv_aload_n hx hb dX10_hangSolids_27 rfl (lv_at hl 1 rfl) ?_
  refine va_get (D := (dC, dI)) (ci := 10) (v := .ref xSum) (C := RX10) (T := TX10) (N := 13) hx hb hts hiX10 hown hK hP 0 rfl rfl 5 (by decide) (hts (.fieldLink RX10 51 "ScissorsTable" "sums" "LScissorsTable$Sums;") (by decide +kernel)) (fun _ h9 => h9) rfl dX10_hangSolids_28 ?_
  refine lv_iload_n hx hb dX10_hangSolids_31 rfl (lv_at hl 0 rfl) ?_
  have hPc := hP.sub (ws' := [(xSum, .inr (8, [.ref sM, .ref sP, .ref sA, .int 0])), (xHan, .inr (3, [.int 0, .int 0, .int 0, .ref hH, .ref hR, .ref hT, .ref hM])), (hH, .inl (cI, 7, (.inl fh))), (hT, .inl (cJ, 7, (.inr (.inl ft)))), (hM, .inl (cJ, 6, (.inr (.inl (fun _ => 0)))))]) [1, 5, 2, 3, 4] rfl
  have hDc := hD.sub (ws' := [(xSum, .inr (8, [.ref sM, .ref sP, .ref sA, .int 0])), (xHan, .inr (3, [.int 0, .int 0, .int 0, .ref hH, .ref hR, .ref hT, .ref hM])), (hH, .inl (cI, 7, (.inl fh))), (hT, .inl (cJ, 7, (.inr (.inl ft)))), (hM, .inl (cJ, 6, (.inr (.inl (fun _ => 0)))))]) [1, 5, 2, 3, 4] (by decide) rfl
  have hFc := va_free (wc := [(xSum, .inr (8, [.ref sM, .ref sP, .ref sA, .int 0])), (xHan, .inr (3, [.int 0, .int 0, .int 0, .ref hH, .ref hR, .ref hT, .ref hM])), (hH, .inl (cI, 7, (.inl fh))), (hT, .inl (cJ, 7, (.inr (.inl ft)))), (hM, .inl (cJ, 6, (.inr (.inl (fun _ => 0)))))]) hD hS hA [1, 5, 2, 3, 4] rfl
  refine va_callv (va_runV (As := [.ref xSum, .int 0]) (rest := []) ⟨hx, hb, hml, hown, hts⟩ (c_X3_next_t0 l dC dI cB cI cJ H.size xSum sM sP sA xHan hH hR hT hM 0 fh ft) (cwV 2 hts gX10_hangSolids_X3_next rfl rfl rfl (by decide +kernel) ⟨Nat.le_of_ble_eq_true rfl, Nat.le_of_ble_eq_true rfl⟩) ⟨fun a U g mk q => by obtain ⟨q0, q1, qP, qK, qD, qN0⟩ := q; exact ⟨q0, q1, qP, va_K.moved (u := U) (U := U.calling g mk a) (Vm.Alike.refl U.vm) qK, qD, va_Nw.same rfl rfl qN0⟩, va_recv hK hP (ci := 3) (q0 := 5) rfl rfl, fun U hU hW => ⟨rfl, by rw [hU], by rw [hU]; exact hPc, va_K.moved hW.alike hK, hDc.weaken (fun _ _ _ _ => trivial), va_Nw.warmM hW hN0⟩⟩ rfl rfl hl.1 rfl (lv_room (Nat.le_of_ble_eq_true rfl)) dX10_hangSolids_32 ⟨Nat.le_of_ble_eq_true rfl, Nat.le_of_ble_eq_true rfl⟩) hS (fun q _ h => hFc q h) hFc (fun u t H1 locs ht hvm hw hB hz1 hk1 hS => ?_)
  obtain ⟨hP1, hK1, hD1⟩ := hB
  rw [ht] at hP1
  obtain ⟨hP, hD⟩ := va_join (wr := [(x0, .inr (10, [.ref xTape, .ref xReader, .ref xBag, .ref xBld, .ref xAng, .ref xSum, .ref xPik, .int 0, .ref xHan, .ref xIns, .ref xShr, .ref xSta, .ref xTur]))]) (w1 := [(xHan, .inr (3, [.int 0, .int 1, .int 1, .ref hH, .ref hR, .ref hT, .ref hM])), (xSum, .inr (8, [.ref sM, .ref sP, .ref sA, .int 0])), (hH, .inl (cI, 7, (.inl (upd fh (0 : Int32).toNatClampNeg 0)))), (hT, .inl (cJ, 7, (.inr (.inl (vp_updL ft (0 : Int32).toNatClampNeg 1))))), (hM, .inl (cJ, 6, (.inr (.inl (vp_updL (fun _ => 0) (0 : Int32).toNatClampNeg 1)))))]) hP hD [1, 5, 2, 3, 4] [0] rfl rfl (by decide) (by decide) hk1 hFc hP1 hD1
  generalize H1 = H at hP hS ⊢
  have hP : va_P (dC, dI) vwCl [(x0, .inr (10, [.ref xTape, .ref xReader, .ref xBag, .ref xBld, .ref xAng, .ref xSum, .ref xPik, .int 0, .ref xHan, .ref xIns, .ref xShr, .ref xSta, .ref xTur])), (xHan, .inr (3, [.int 0, .int 1, .int 1, .ref hH, .ref hR, .ref hT, .ref hM])), (xSum, .inr (8, [.ref sM, .ref sP, .ref sA, .int 0])), (hH, .inl (cI, 7, (.inl (upd fh (0 : Int32).toNatClampNeg 0)))), (hT, .inl (cJ, 7, (.inr (.inl (vp_updL ft (0 : Int32).toNatClampNeg 1))))), (hM, .inl (cJ, 6, (.inr (.inl (vp_updL (fun _ => 0) (0 : Int32).toNatClampNeg 1)))))] H := hP
  have hD : va_D A [(x0, .inr (10, [.ref xTape, .ref xReader, .ref xBag, .ref xBld, .ref xAng, .ref xSum, .ref xPik, .int 0, .ref xHan, .ref xIns, .ref xShr, .ref xSta, .ref xTur])), (xHan, .inr (3, [.int 0, .int 1, .int 1, .ref hH, .ref hR, .ref hT, .ref hM])), (xSum, .inr (8, [.ref sM, .ref sP, .ref sA, .int 0])), (hH, .inl (cI, 7, (.inl (upd fh (0 : Int32).toNatClampNeg 0)))), (hT, .inl (cJ, 7, (.inr (.inl (vp_updL ft (0 : Int32).toNatClampNeg 1))))), (hM, .inl (cJ, 6, (.inr (.inl (vp_updL (fun _ => 0) (0 : Int32).toNatClampNeg 1)))))] := hD
  refine lv_iinc (v := 1) (lv' := [(2, .int 1), (0, .ref x0), (1, .int 1)]) hx hb dX10_hangSolids_35 hl (k := 0) rfl (by decide) (by decide) rfl (fun ls hl => ?_)
  refine lv_goto (tgt := 9) hx hb dX10_hangSolids_38 (by decide) ?_
  refine lv_iload_n hx hb dX10_hangSolids_9 rfl (lv_at hl 0 rfl) ?_
  refine lv_iconst (v := 4) hx hb dX10_hangSolids_10 (by decide) ?_
  refine lv_icmp_ge (tgt := 41) hx hb dX10_hangSolids_11 (by decide) (fun c => absurd c (by decide)) (fun _ => ?_)
  refine lv_iload_n hx hb dX10_hangSolids_14 rfl (lv_at hl 2 rfl) ?_
  refine lv_iload_n hx hb dX10_hangSolids_15 rfl (lv_at hl 0 rfl) ?_
  refine lv_ishr hx hb dX10_hangSolids_16 ?_
  refine lv_topi (fun x_3 ex_3 => ?_)
  obtain rfl : x_3 = 0 := ex_3.trans (by first | rfl | decide)
  refine lv_iconst (v := 1) hx hb dX10_hangSolids_17 (by decide) ?_
  refine lv_iand hx hb dX10_hangSolids_18 ?_
  refine lv_topi (fun x_4 ex_4 => ?_)
  obtain rfl : x_4 = 0 := ex_4.trans (by first | rfl | decide)
  refine lv_iconst (v := 1) hx hb dX10_hangSolids_19 (by decide) ?_
  refine lv_icmp_ne (tgt := 35) hx hb dX10_hangSolids_20 (by decide) (fun _ => ?_) (fun c => absurd c (by decide))
  refine lv_iinc (v := 2) (lv' := [(2, .int 2), (0, .ref x0), (1, .int 1)]) hx hb dX10_hangSolids_35 hl (k := 0) rfl (by decide) (by decide) rfl (fun ls hl => ?_)
  refine lv_goto (tgt := 9) hx hb dX10_hangSolids_38 (by decide) ?_
  refine lv_iload_n hx hb dX10_hangSolids_9 rfl (lv_at hl 0 rfl) ?_
  refine lv_iconst (v := 4) hx hb dX10_hangSolids_10 (by decide) ?_
  refine lv_icmp_ge (tgt := 41) hx hb dX10_hangSolids_11 (by decide) (fun c => absurd c (by decide)) (fun _ => ?_)
  refine lv_iload_n hx hb dX10_hangSolids_14 rfl (lv_at hl 2 rfl) ?_
  refine lv_iload_n hx hb dX10_hangSolids_15 rfl (lv_at hl 0 rfl) ?_
  refine lv_ishr hx hb dX10_hangSolids_16 ?_
  refine lv_topi (fun x_5 ex_5 => ?_)
  obtain rfl : x_5 = 0 := ex_5.trans (by first | rfl | decide)
  refine lv_iconst (v := 1) hx hb dX10_hangSolids_17 (by decide) ?_
  refine lv_iand hx hb dX10_hangSolids_18 ?_
  refine lv_topi (fun x_6 ex_6 => ?_)
  obtain rfl : x_6 = 0 := ex_6.trans (by first | rfl | decide)
  refine lv_iconst (v := 1) hx hb dX10_hangSolids_19 (by decide) ?_
  refine lv_icmp_ne (tgt := 35) hx hb dX10_hangSolids_20 (by decide) (fun _ => ?_) (fun c => absurd c (by decide))
  refine lv_iinc (v := 3) (lv' := [(2, .int 3), (0, .ref x0), (1, .int 1)]) hx hb dX10_hangSolids_35 hl (k := 0) rfl (by decide) (by decide) rfl (fun ls hl => ?_)
  refine lv_goto (tgt := 9) hx hb dX10_hangSolids_38 (by decide) ?_
  refine lv_iload_n hx hb dX10_hangSolids_9 rfl (lv_at hl 0 rfl) ?_
  refine lv_iconst (v := 4) hx hb dX10_hangSolids_10 (by decide) ?_
  refine lv_icmp_ge (tgt := 41) hx hb dX10_hangSolids_11 (by decide) (fun c => absurd c (by decide)) (fun _ => ?_)
  refine lv_iload_n hx hb dX10_hangSolids_14 rfl (lv_at hl 2 rfl) ?_
  refine lv_iload_n hx hb dX10_hangSolids_15 rfl (lv_at hl 0 rfl) ?_
  refine lv_ishr hx hb dX10_hangSolids_16 ?_
  refine lv_topi (fun x_7 ex_7 => ?_)
  obtain rfl : x_7 = 0 := ex_7.trans (by first | rfl | decide)
  refine lv_iconst (v := 1) hx hb dX10_hangSolids_17 (by decide) ?_
  refine lv_iand hx hb dX10_hangSolids_18 ?_
  refine lv_topi (fun x_8 ex_8 => ?_)
  obtain rfl : x_8 = 0 := ex_8.trans (by first | rfl | decide)
  refine lv_iconst (v := 1) hx hb dX10_hangSolids_19 (by decide) ?_
  refine lv_icmp_ne (tgt := 35) hx hb dX10_hangSolids_20 (by decide) (fun _ => ?_) (fun c => absurd c (by decide))
  refine lv_iinc (v := 4) (lv' := [(2, .int 4), (0, .ref x0), (1, .int 1)]) hx hb dX10_hangSolids_35 hl (k := 0) rfl (by decide) (by decide) rfl (fun ls hl => ?_)
  refine lv_goto (tgt := 9) hx hb dX10_hangSolids_38 (by decide) ?_
  refine lv_iload_n hx hb dX10_hangSolids_9 rfl (lv_at hl 0 rfl) ?_
  refine lv_iconst (v := 4) hx hb dX10_hangSolids_10 (by decide) ?_
  refine lv_icmp_ge (tgt := 41) hx hb dX10_hangSolids_11 (by decide) (fun _ => ?_) (fun c => absurd (by decide) c)
  have hP9 := hP.sub (ws' := [(x0, .inr (10, [.ref xTape, .ref xReader, .ref xBag, .ref xBld, .ref xAng, .ref xSum, .ref xPik, .int 0, .ref xHan, .ref xIns, .ref xShr, .ref xSta, .ref xTur])), (xHan, .inr (3, [.int 0, .int 1, .int 1, .ref hH, .ref hR, .ref hT, .ref hM])), (xSum, .inr (8, [.ref sM, .ref sP, .ref sA, .int 0])), (hH, .inl (cI, 7, (.inl (upd fh (0 : Int32).toNatClampNeg 0)))), (hT, .inl (cJ, 7, (.inr (.inl (vp_updL ft (0 : Int32).toNatClampNeg 1))))), (hM, .inl (cJ, 6, (.inr (.inl (vp_updL (fun _ => 0) (0 : Int32).toNatClampNeg 1)))))]) [0, 1, 2, 3, 4, 5] rfl
  have hD9 := hD.sub (ws' := [(x0, .inr (10, [.ref xTape, .ref xReader, .ref xBag, .ref xBld, .ref xAng, .ref xSum, .ref xPik, .int 0, .ref xHan, .ref xIns, .ref xShr, .ref xSta, .ref xTur])), (xHan, .inr (3, [.int 0, .int 1, .int 1, .ref hH, .ref hR, .ref hT, .ref hM])), (xSum, .inr (8, [.ref sM, .ref sP, .ref sA, .int 0])), (hH, .inl (cI, 7, (.inl (upd fh (0 : Int32).toNatClampNeg 0)))), (hT, .inl (cJ, 7, (.inr (.inl (vp_updL ft (0 : Int32).toNatClampNeg 1))))), (hM, .inl (cJ, 6, (.inr (.inl (vp_updL (fun _ => 0) (0 : Int32).toNatClampNeg 1)))))]) [0, 1, 2, 3, 4, 5] (by decide) rfl
  refine W.widen (k := 0) (n := 0) (Nat.le_of_ble_eq_true rfl) (Nat.le_of_ble_eq_true rfl) ?_
  exact W.vret hx hb hr (fun t ht hW => ⟨⟨(), rfl, trivial, by rw [ht]; exact hP9, va_K.moved hW.alike hK, hD9⟩, hS.F ht⟩) hS.2.2 dX10_hangSolids_41
set_option maxHeartbeats 4000000 in
set_option maxRecDepth 100000 in
theorem c_X10_hangSolids_2 (l : Launch) (dC : Nat → ClassId) (dI : Nat → Nat → Nat) (cB cI cJ : ClassId) (sz : Nat) (x0 xTape xReader xBag xBld xAng xSum xPik xHan xIns xShr xSta xTur sM sP sA hH hR hT hM : Nat) (fh : Nat → Int32) (ft : Nat → Int64) : Met l yX10_hangSolids wsX10_hangSolids ({ frames := 5, cells := 0, slots := 0, locals := 118 }) (va_Pc [.ref x0, .int 2] (fun U => U.heap.size = sz ∧ va_P (dC, dI) vwCl [(x0, .inr (10, [.ref xTape, .ref xReader, .ref xBag, .ref xBld, .ref xAng, .ref xSum, .ref xPik, .int 0, .ref xHan, .ref xIns, .ref xShr, .ref xSta, .ref xTur])), (xSum, .inr (8, [.ref sM, .ref sP, .ref sA, .int 0])), (xHan, .inr (3, [.int 0, .int 0, .int 0, .ref hH, .ref hR, .ref hT, .ref hM])), (hH, .inl (cI, 7, (.inl fh))), (hT, .inl (cJ, 7, (.inr (.inl ft)))), (hM, .inl (cJ, 6, (.inr (.inl (fun _ => 0)))))] U.heap ∧ va_K (dC, dI) vwCl [(cB, .byte), (cI, .int), (cJ, .long)] U ∧ va_D (fun _ => True) [(x0, .inr (10, [.ref xTape, .ref xReader, .ref xBag, .ref xBld, .ref xAng, .ref xSum, .ref xPik, .int 0, .ref xHan, .ref xIns, .ref xShr, .ref xSta, .ref xTur])), (xSum, .inr (8, [.ref sM, .ref sP, .ref sA, .int 0])), (xHan, .inr (3, [.int 0, .int 0, .int 0, .ref hH, .ref hR, .ref hT, .ref hM])), (hH, .inl (cI, 7, (.inl fh))), (hT, .inl (cJ, 7, (.inr (.inl ft)))), (hM, .inl (cJ, 6, (.inr (.inl (fun _ => 0)))))] ∧ va_Nw (.methodLinkNest RX3 62 yX10_gcd "ScissorsTable") U)) (va_Qv (fun _ : Unit => True) (fun _ t => va_P (dC, dI) vwCl [(x0, .inr (10, [.ref xTape, .ref xReader, .ref xBag, .ref xBld, .ref xAng, .ref xSum, .ref xPik, .int 0, .ref xHan, .ref xIns, .ref xShr, .ref xSta, .ref xTur])), (xHan, .inr (3, [.int 0, .int 1, .int 1, .ref hH, .ref hR, .ref hT, .ref hM])), (xSum, .inr (8, [.ref sM, .ref sP, .ref sA, .int 0])), (hH, .inl (cI, 7, (.inl (upd fh (0 : Int32).toNatClampNeg 1)))), (hT, .inl (cJ, 7, (.inr (.inl (vp_updL ft (0 : Int32).toNatClampNeg 1))))), (hM, .inl (cJ, 6, (.inr (.inl (vp_updL (fun _ => 0) (0 : Int32).toNatClampNeg 1)))))] t.heap ∧ va_K (dC, dI) vwCl [(cB, .byte), (cI, .int), (cJ, .long)] t ∧ va_D (va_A [(x0, .inr (10, [.ref xTape, .ref xReader, .ref xBag, .ref xBld, .ref xAng, .ref xSum, .ref xPik, .int 0, .ref xHan, .ref xIns, .ref xShr, .ref xSta, .ref xTur])), (xSum, .inr (8, [.ref sM, .ref sP, .ref sA, .int 0])), (xHan, .inr (3, [.int 0, .int 0, .int 0, .ref hH, .ref hR, .ref hT, .ref hM])), (hH, .inl (cI, 7, (.inl fh))), (hT, .inl (cJ, 7, (.inr (.inl ft)))), (hM, .inl (cJ, 6, (.inr (.inl (fun _ => 0)))))] sz) [(x0, .inr (10, [.ref xTape, .ref xReader, .ref xBag, .ref xBld, .ref xAng, .ref xSum, .ref xPik, .int 0, .ref xHan, .ref xIns, .ref xShr, .ref xSta, .ref xTur])), (xHan, .inr (3, [.int 0, .int 1, .int 1, .ref hH, .ref hR, .ref hT, .ref hM])), (xSum, .inr (8, [.ref sM, .ref sP, .ref sA, .int 0])), (hH, .inl (cI, 7, (.inl (upd fh (0 : Int32).toNatClampNeg 1)))), (hT, .inl (cJ, 7, (.inr (.inl (vp_updL ft (0 : Int32).toNatClampNeg 1))))), (hM, .inl (cJ, 6, (.inr (.inl (vp_updL (fun _ => 0) (0 : Int32).toNatClampNeg 1)))))]) (va_A [(x0, .inr (10, [.ref xTape, .ref xReader, .ref xBag, .ref xBld, .ref xAng, .ref xSum, .ref xPik, .int 0, .ref xHan, .ref xIns, .ref xShr, .ref xSta, .ref xTur])), (xSum, .inr (8, [.ref sM, .ref sP, .ref sA, .int 0])), (xHan, .inr (3, [.int 0, .int 0, .int 0, .ref hH, .ref hR, .ref hT, .ref hM])), (hH, .inl (cI, 7, (.inl fh))), (hT, .inl (cJ, 7, (.inr (.inl ft)))), (hM, .inl (cJ, 6, (.inr (.inl (fun _ => 0)))))] sz)) 0 0 (va_A [(x0, .inr (10, [.ref xTape, .ref xReader, .ref xBag, .ref xBld, .ref xAng, .ref xSum, .ref xPik, .int 0, .ref xHan, .ref xIns, .ref xShr, .ref xSta, .ref xTur])), (xSum, .inr (8, [.ref sM, .ref sP, .ref sA, .int 0])), (xHan, .inr (3, [.int 0, .int 0, .int 0, .ref hH, .ref hR, .ref hT, .ref hM])), (hH, .inl (cI, 7, (.inl fh))), (hT, .inl (cJ, 7, (.inr (.inl ft)))), (hM, .inl (cJ, 6, (.inr (.inl (fun _ => 0)))))] sz) := by
  refine Met.ofW (cc := cX10_hangSolids) (maxL := 3) (ret := none) (by decide) rfl ?_
  intro p e s m args below meth c s₁ B hml hv
  obtain ⟨rfl, hsz, hP, hK, hD0, hN0⟩ := hv
  have hx := B.exec
  have hb := B.bytes
  have hr := B.returns
  have hts := atoms_spec (ws := wsX10_hangSolids) B.pre
  have hown : s.vm.findClass RX10 = some m.cls := findClass_of_methodNamed B.named
  have hlocks := B.notSynchronized
  have hiX10 : ∀ w ∈ u_ws RX10 TX10 13, w ∈ wsX10_hangSolids := by decide +kernel
  subst hsz
  have hD := hD0.self (sz := s.heap.size)
  generalize hAe : va_A [(x0, .inr (10, [.ref xTape, .ref xReader, .ref xBag, .ref xBld, .ref xAng, .ref xSum, .ref xPik, .int 0, .ref xHan, .ref xIns, .ref xShr, .ref xSta, .ref xTur])), (xSum, .inr (8, [.ref sM, .ref sP, .ref sA, .int 0])), (xHan, .inr (3, [.int 0, .int 0, .int 0, .ref hH, .ref hR, .ref hT, .ref hM])), (hH, .inl (cI, 7, (.inl fh))), (hT, .inl (cJ, 7, (.inr (.inl ft)))), (hM, .inl (cJ, 6, (.inr (.inl (fun _ => 0)))))] s.heap.size = A at hD ⊢
  have hA : ∀ q : Nat, s.heap.size ≤ q → A q := fun q h => by rw [← hAe]; exact Or.inr h
  have hS : va_S A s.heap s.heap [] := va_S.rf
  have hP : va_P (dC, dI) vwCl [(x0, .inr (10, [.ref xTape, .ref xReader, .ref xBag, .ref xBld, .ref xAng, .ref xSum, .ref xPik, .int 0, .ref xHan, .ref xIns, .ref xShr, .ref xSta, .ref xTur])), (xSum, .inr (8, [.ref sM, .ref sP, .ref sA, .int 0])), (xHan, .inr (3, [.int 0, .int 0, .int 0, .ref hH, .ref hR, .ref hT, .ref hM])), (hH, .inl (cI, 7, (.inl fh))), (hT, .inl (cJ, 7, (.inr (.inl ft)))), (hM, .inl (cJ, 6, (.inr (.inl (fun _ => 0)))))] s.heap := hP
  have hl := lv_entry ([.ref x0, .int 2]) (n := 3) (Nat.le_of_ble_eq_true rfl)
  rw [lg_entry_eq]
  generalize (lg_sl ([.ref x0, .int 2]) ++ List.replicate (3 - (lg_sl ([.ref x0, .int 2])).length) Slot.unset).toArray = ls at hl ⊢
  have hl : lv_has ls 3 [(0, .ref x0), (1, .int 2)] := hl
  refine lv_aload_n hx hb dX10_hangSolids_0 rfl (lv_at hl 0 rfl) ?_
  refine va_get (D := (dC, dI)) (ci := 10) (v := .ref xHan) (C := RX10) (T := TX10) (N := 13) hx hb hts hiX10 hown hK hP 0 rfl rfl 8 (by decide) (hts (.fieldLink RX10 61 "ScissorsTable" "hang" "LScissorsTable$Hang;") (by decide +kernel)) (fun _ h9 => h9) rfl dX10_hangSolids_1 ?_
  have hPc := hP.sub (ws' := [(xHan, .inr (3, [.int 0, .int 0, .int 0, .ref hH, .ref hR, .ref hT, .ref hM]))]) [2] rfl
  have hDc := hD.sub (ws' := [(xHan, .inr (3, [.int 0, .int 0, .int 0, .ref hH, .ref hR, .ref hT, .ref hM]))]) [2] (by decide) rfl
  have hFc := va_free (wc := [(xHan, .inr (3, [.int 0, .int 0, .int 0, .ref hH, .ref hR, .ref hT, .ref hM]))]) hD hS hA [2] rfl
  refine va_callv (va_runV (As := []) (rest := []) ⟨hx, hb, hml, hown, hts⟩ (c_X3_begin l dC dI cB cI cJ s.heap.size xHan hH hR hT hM) (cwV 0 hts gX10_hangSolids_X3_begin rfl rfl rfl (by decide +kernel) ⟨Nat.le_of_ble_eq_true rfl, Nat.le_of_ble_eq_true rfl⟩) ⟨fun a U g mk q => by obtain ⟨q0, q1, qP, qK, qD⟩ := q; exact ⟨q0, q1, qP, va_K.moved (u := U) (U := U.calling g mk a) (Vm.Alike.refl U.vm) qK, qD⟩, va_recv hK hP (ci := 3) (q0 := 2) rfl rfl, fun U hU hW => ⟨rfl, by rw [hU], by rw [hU]; exact hPc, va_K.moved hW.alike hK, hDc.weaken (fun _ _ _ _ => trivial)⟩⟩ rfl rfl hl.1 rfl (lv_room (Nat.le_of_ble_eq_true rfl)) dX10_hangSolids_4 ⟨Nat.le_of_ble_eq_true rfl, Nat.le_of_ble_eq_true rfl⟩) hS (fun q _ h => hFc q h) hFc (fun u t H1 locs ht hvm hw hB hz1 hk1 hS => ?_)
  obtain ⟨hP1, hK1, hD1⟩ := hB
  rw [ht] at hP1
  obtain ⟨hP, hD⟩ := va_join (wr := [(x0, .inr (10, [.ref xTape, .ref xReader, .ref xBag, .ref xBld, .ref xAng, .ref xSum, .ref xPik, .int 0, .ref xHan, .ref xIns, .ref xShr, .ref xSta, .ref xTur])), (xSum, .inr (8, [.ref sM, .ref sP, .ref sA, .int 0])), (hH, .inl (cI, 7, (.inl fh))), (hT, .inl (cJ, 7, (.inr (.inl ft)))), (hM, .inl (cJ, 6, (.inr (.inl (fun _ => 0)))))]) (w1 := [(xHan, .inr (3, [.int 0, .int 0, .int 0, .ref hH, .ref hR, .ref hT, .ref hM]))]) hP hD [2] [0, 1, 3, 4, 5] rfl rfl (by decide) (by decide) hk1 hFc hP1 hD1
  generalize H1 = H at hP hS ⊢
  have hP : va_P (dC, dI) vwCl [(x0, .inr (10, [.ref xTape, .ref xReader, .ref xBag, .ref xBld, .ref xAng, .ref xSum, .ref xPik, .int 0, .ref xHan, .ref xIns, .ref xShr, .ref xSta, .ref xTur])), (xSum, .inr (8, [.ref sM, .ref sP, .ref sA, .int 0])), (hH, .inl (cI, 7, (.inl fh))), (hT, .inl (cJ, 7, (.inr (.inl ft)))), (hM, .inl (cJ, 6, (.inr (.inl (fun _ => 0))))), (xHan, .inr (3, [.int 0, .int 0, .int 0, .ref hH, .ref hR, .ref hT, .ref hM]))] H := hP
  have hD : va_D A [(x0, .inr (10, [.ref xTape, .ref xReader, .ref xBag, .ref xBld, .ref xAng, .ref xSum, .ref xPik, .int 0, .ref xHan, .ref xIns, .ref xShr, .ref xSta, .ref xTur])), (xSum, .inr (8, [.ref sM, .ref sP, .ref sA, .int 0])), (hH, .inl (cI, 7, (.inl fh))), (hT, .inl (cJ, 7, (.inr (.inl ft)))), (hM, .inl (cJ, 6, (.inr (.inl (fun _ => 0))))), (xHan, .inr (3, [.int 0, .int 0, .int 0, .ref hH, .ref hR, .ref hT, .ref hM]))] := hD
  refine lv_iconst (v := 0) hx hb dX10_hangSolids_7 (by decide) ?_
  refine lv_istore_n (lv' := [(2, .int 0), (0, .ref x0), (1, .int 2)]) hx hb dX10_hangSolids_8 rfl hl (by decide) rfl (fun ls hl => ?_)
  refine lv_iload_n hx hb dX10_hangSolids_9 rfl (lv_at hl 0 rfl) ?_
  refine lv_iconst (v := 4) hx hb dX10_hangSolids_10 (by decide) ?_
  refine lv_icmp_ge (tgt := 41) hx hb dX10_hangSolids_11 (by decide) (fun c => absurd c (by decide)) (fun _ => ?_)
  refine lv_iload_n hx hb dX10_hangSolids_14 rfl (lv_at hl 2 rfl) ?_
  refine lv_iload_n hx hb dX10_hangSolids_15 rfl (lv_at hl 0 rfl) ?_
  refine lv_ishr hx hb dX10_hangSolids_16 ?_
  refine lv_topi (fun x_1 ex_1 => ?_)
  obtain rfl : x_1 = 2 := ex_1.trans (by first | rfl | decide)
  refine lv_iconst (v := 1) hx hb dX10_hangSolids_17 (by decide) ?_
  refine lv_iand hx hb dX10_hangSolids_18 ?_
  refine lv_topi (fun x_2 ex_2 => ?_)
  obtain rfl : x_2 = 0 := ex_2.trans (by first | rfl | decide)
  refine lv_iconst (v := 1) hx hb dX10_hangSolids_19 (by decide) ?_
  refine lv_icmp_ne (tgt := 35) hx hb dX10_hangSolids_20 (by decide) (fun _ => ?_) (fun c => absurd c (by decide))
  refine lv_iinc (v := 1) (lv' := [(2, .int 1), (0, .ref x0), (1, .int 2)]) hx hb dX10_hangSolids_35 hl (k := 0) rfl (by decide) (by decide) rfl (fun ls hl => ?_)
  refine lv_goto (tgt := 9) hx hb dX10_hangSolids_38 (by decide) ?_
  refine lv_iload_n hx hb dX10_hangSolids_9 rfl (lv_at hl 0 rfl) ?_
  refine lv_iconst (v := 4) hx hb dX10_hangSolids_10 (by decide) ?_
  refine lv_icmp_ge (tgt := 41) hx hb dX10_hangSolids_11 (by decide) (fun c => absurd c (by decide)) (fun _ => ?_)
  refine lv_iload_n hx hb dX10_hangSolids_14 rfl (lv_at hl 2 rfl) ?_
  refine lv_iload_n hx hb dX10_hangSolids_15 rfl (lv_at hl 0 rfl) ?_
  refine lv_ishr hx hb dX10_hangSolids_16 ?_
  refine lv_topi (fun x_3 ex_3 => ?_)
  obtain rfl : x_3 = 1 := ex_3.trans (by first | rfl | decide)
  refine lv_iconst (v := 1) hx hb dX10_hangSolids_17 (by decide) ?_
  refine lv_iand hx hb dX10_hangSolids_18 ?_
  refine lv_topi (fun x_4 ex_4 => ?_)
  obtain rfl : x_4 = 1 := ex_4.trans (by first | rfl | decide)
  refine lv_iconst (v := 1) hx hb dX10_hangSolids_19 (by decide) ?_
  refine lv_icmp_ne (tgt := 35) hx hb dX10_hangSolids_20 (by decide) (fun c => absurd (by decide) c) (fun _ => ?_)
  refine lv_aload_n hx hb dX10_hangSolids_23 rfl (lv_at hl 1 rfl) ?_
  refine va_get (D := (dC, dI)) (ci := 10) (v := .ref xHan) (C := RX10) (T := TX10) (N := 13) hx hb hts hiX10 hown hK hP 0 rfl rfl 8 (by decide) (hts (.fieldLink RX10 61 "ScissorsTable" "hang" "LScissorsTable$Hang;") (by decide +kernel)) (fun _ h9 => h9) rfl dX10_hangSolids_24 ?_
  refine lv_aload_n hx hb dX10_hangSolids_27 rfl (lv_at hl 1 rfl) ?_
  refine va_get (D := (dC, dI)) (ci := 10) (v := .ref xSum) (C := RX10) (T := TX10) (N := 13) hx hb hts hiX10 hown hK hP 0 rfl rfl 5 (by decide) (hts (.fieldLink RX10 51 "ScissorsTable" "sums" "LScissorsTable$Sums;") (by decide +kernel)) (fun _ h9 => h9) rfl dX10_hangSolids_28 ?_
  refine lv_iload_n hx hb dX10_hangSolids_31 rfl (lv_at hl 0 rfl) ?_
  have hPc := hP.sub (ws' := [(xSum, .inr (8, [.ref sM, .ref sP, .ref sA, .int 0])), (xHan, .inr (3, [.int 0, .int 0, .int 0, .ref hH, .ref hR, .ref hT, .ref hM])), (hH, .inl (cI, 7, (.inl fh))), (hT, .inl (cJ, 7, (.inr (.inl ft)))), (hM, .inl (cJ, 6, (.inr (.inl (fun _ => 0)))))]) [1, 5, 2, 3, 4] rfl
  have hDc := hD.sub (ws' := [(xSum, .inr (8, [.ref sM, .ref sP, .ref sA, .int 0])), (xHan, .inr (3, [.int 0, .int 0, .int 0, .ref hH, .ref hR, .ref hT, .ref hM])), (hH, .inl (cI, 7, (.inl fh))), (hT, .inl (cJ, 7, (.inr (.inl ft)))), (hM, .inl (cJ, 6, (.inr (.inl (fun _ => 0)))))]) [1, 5, 2, 3, 4] (by decide) rfl
  have hFc := va_free (wc := [(xSum, .inr (8, [.ref sM, .ref sP, .ref sA, .int 0])), (xHan, .inr (3, [.int 0, .int 0, .int 0, .ref hH, .ref hR, .ref hT, .ref hM])), (hH, .inl (cI, 7, (.inl fh))), (hT, .inl (cJ, 7, (.inr (.inl ft)))), (hM, .inl (cJ, 6, (.inr (.inl (fun _ => 0)))))]) hD hS hA [1, 5, 2, 3, 4] rfl
  refine va_callv (va_runV (As := [.ref xSum, .int 1]) (rest := []) ⟨hx, hb, hml, hown, hts⟩ (c_X3_next_t0 l dC dI cB cI cJ H.size xSum sM sP sA xHan hH hR hT hM 1 fh ft) (cwV 2 hts gX10_hangSolids_X3_next rfl rfl rfl (by decide +kernel) ⟨Nat.le_of_ble_eq_true rfl, Nat.le_of_ble_eq_true rfl⟩) ⟨fun a U g mk q => by obtain ⟨q0, q1, qP, qK, qD, qN0⟩ := q; exact ⟨q0, q1, qP, va_K.moved (u := U) (U := U.calling g mk a) (Vm.Alike.refl U.vm) qK, qD, va_Nw.same rfl rfl qN0⟩, va_recv hK hP (ci := 3) (q0 := 5) rfl rfl, fun U hU hW => ⟨rfl, by rw [hU], by rw [hU]; exact hPc, va_K.moved hW.alike hK, hDc.weaken (fun _ _ _ _ => trivial), va_Nw.warmM hW hN0⟩⟩ rfl rfl hl.1 rfl (lv_room (Nat.le_of_ble_eq_true rfl)) dX10_hangSolids_32 ⟨Nat.le_of_ble_eq_true rfl, Nat.le_of_ble_eq_true rfl⟩) hS (fun q _ h => hFc q h) hFc (fun u t H1 locs ht hvm hw hB hz1 hk1 hS => ?_)
  obtain ⟨hP1, hK1, hD1⟩ := hB
  rw [ht] at hP1
  obtain ⟨hP, hD⟩ := va_join (wr := [(x0, .inr (10, [.ref xTape, .ref xReader, .ref xBag, .ref xBld, .ref xAng, .ref xSum, .ref xPik, .int 0, .ref xHan, .ref xIns, .ref xShr, .ref xSta, .ref xTur]))]) (w1 := [(xHan, .inr (3, [.int 0, .int 1, .int 1, .ref hH, .ref hR, .ref hT, .ref hM])), (xSum, .inr (8, [.ref sM, .ref sP, .ref sA, .int 0])), (hH, .inl (cI, 7, (.inl (upd fh (0 : Int32).toNatClampNeg 1)))), (hT, .inl (cJ, 7, (.inr (.inl (vp_updL ft (0 : Int32).toNatClampNeg 1))))), (hM, .inl (cJ, 6, (.inr (.inl (vp_updL (fun _ => 0) (0 : Int32).toNatClampNeg 1)))))]) hP hD [1, 5, 2, 3, 4] [0] rfl rfl (by decide) (by decide) hk1 hFc hP1 hD1
  generalize H1 = H at hP hS ⊢
  have hP : va_P (dC, dI) vwCl [(x0, .inr (10, [.ref xTape, .ref xReader, .ref xBag, .ref xBld, .ref xAng, .ref xSum, .ref xPik, .int 0, .ref xHan, .ref xIns, .ref xShr, .ref xSta, .ref xTur])), (xHan, .inr (3, [.int 0, .int 1, .int 1, .ref hH, .ref hR, .ref hT, .ref hM])), (xSum, .inr (8, [.ref sM, .ref sP, .ref sA, .int 0])), (hH, .inl (cI, 7, (.inl (upd fh (0 : Int32).toNatClampNeg 1)))), (hT, .inl (cJ, 7, (.inr (.inl (vp_updL ft (0 : Int32).toNatClampNeg 1))))), (hM, .inl (cJ, 6, (.inr (.inl (vp_updL (fun _ => 0) (0 : Int32).toNatClampNeg 1)))))] H := hP
  have hD : va_D A [(x0, .inr (10, [.ref xTape, .ref xReader, .ref xBag, .ref xBld, .ref xAng, .ref xSum, .ref xPik, .int 0, .ref xHan, .ref xIns, .ref xShr, .ref xSta, .ref xTur])), (xHan, .inr (3, [.int 0, .int 1, .int 1, .ref hH, .ref hR, .ref hT, .ref hM])), (xSum, .inr (8, [.ref sM, .ref sP, .ref sA, .int 0])), (hH, .inl (cI, 7, (.inl (upd fh (0 : Int32).toNatClampNeg 1)))), (hT, .inl (cJ, 7, (.inr (.inl (vp_updL ft (0 : Int32).toNatClampNeg 1))))), (hM, .inl (cJ, 6, (.inr (.inl (vp_updL (fun _ => 0) (0 : Int32).toNatClampNeg 1)))))] := hD
  refine lv_iinc (v := 2) (lv' := [(2, .int 2), (0, .ref x0), (1, .int 2)]) hx hb dX10_hangSolids_35 hl (k := 0) rfl (by decide) (by decide) rfl (fun ls hl => ?_)
  refine lv_goto (tgt := 9) hx hb dX10_hangSolids_38 (by decide) ?_
  refine lv_iload_n hx hb dX10_hangSolids_9 rfl (lv_at hl 0 rfl) ?_
  refine lv_iconst (v := 4) hx hb dX10_hangSolids_10 (by decide) ?_
  refine lv_icmp_ge (tgt := 41) hx hb dX10_hangSolids_11 (by decide) (fun c => absurd c (by decide)) (fun _ => ?_)
  refine lv_iload_n hx hb dX10_hangSolids_14 rfl (lv_at hl 2 rfl) ?_
  refine lv_iload_n hx hb dX10_hangSolids_15 rfl (lv_at hl 0 rfl) ?_
  refine lv_ishr hx hb dX10_hangSolids_16 ?_
  refine lv_topi (fun x_5 ex_5 => ?_)
  obtain rfl : x_5 = 0 := ex_5.trans (by first | rfl | decide)
  refine lv_iconst (v := 1) hx hb dX10_hangSolids_17 (by decide) ?_
  refine lv_iand hx hb dX10_hangSolids_18 ?_
  refine lv_topi (fun x_6 ex_6 => ?_)
  obtain rfl : x_6 = 0 := ex_6.trans (by first | rfl | decide)
  refine lv_iconst (v := 1) hx hb dX10_hangSolids_19 (by decide) ?_
  refine lv_icmp_ne (tgt := 35) hx hb dX10_hangSolids_20 (by decide) (fun _ => ?_) (fun c => absurd c (by decide))
  refine lv_iinc (v := 3) (lv' := [(2, .int 3), (0, .ref x0), (1, .int 2)]) hx hb dX10_hangSolids_35 hl (k := 0) rfl (by decide) (by decide) rfl (fun ls hl => ?_)
  refine lv_goto (tgt := 9) hx hb dX10_hangSolids_38 (by decide) ?_
  refine lv_iload_n hx hb dX10_hangSolids_9 rfl (lv_at hl 0 rfl) ?_
  refine lv_iconst (v := 4) hx hb dX10_hangSolids_10 (by decide) ?_
  refine lv_icmp_ge (tgt := 41) hx hb dX10_hangSolids_11 (by decide) (fun c => absurd c (by decide)) (fun _ => ?_)
  refine lv_iload_n hx hb dX10_hangSolids_14 rfl (lv_at hl 2 rfl) ?_
  refine lv_iload_n hx hb dX10_hangSolids_15 rfl (lv_at hl 0 rfl) ?_
  refine lv_ishr hx hb dX10_hangSolids_16 ?_
  refine lv_topi (fun x_7 ex_7 => ?_)
  obtain rfl : x_7 = 0 := ex_7.trans (by first | rfl | decide)
  refine lv_iconst (v := 1) hx hb dX10_hangSolids_17 (by decide) ?_
  refine lv_iand hx hb dX10_hangSolids_18 ?_
  refine lv_topi (fun x_8 ex_8 => ?_)
  obtain rfl : x_8 = 0 := ex_8.trans (by first | rfl | decide)
  refine lv_iconst (v := 1) hx hb dX10_hangSolids_19 (by decide) ?_
  refine lv_icmp_ne (tgt := 35) hx hb dX10_hangSolids_20 (by decide) (fun _ => ?_) (fun c => absurd c (by decide))
  refine lv_iinc (v := 4) (lv' := [(2, .int 4), (0, .ref x0), (1, .int 2)]) hx hb dX10_hangSolids_35 hl (k := 0) rfl (by decide) (by decide) rfl (fun ls hl => ?_)
  refine lv_goto (tgt := 9) hx hb dX10_hangSolids_38 (by decide) ?_
  refine lv_iload_n hx hb dX10_hangSolids_9 rfl (lv_at hl 0 rfl) ?_
  refine lv_iconst (v := 4) hx hb dX10_hangSolids_10 (by decide) ?_
  refine lv_icmp_ge (tgt := 41) hx hb dX10_hangSolids_11 (by decide) (fun _ => ?_) (fun c => absurd (by decide) c)
  have hP9 := hP.sub (ws' := [(x0, .inr (10, [.ref xTape, .ref xReader, .ref xBag, .ref xBld, .ref xAng, .ref xSum, .ref xPik, .int 0, .ref xHan, .ref xIns, .ref xShr, .ref xSta, .ref xTur])), (xHan, .inr (3, [.int 0, .int 1, .int 1, .ref hH, .ref hR, .ref hT, .ref hM])), (xSum, .inr (8, [.ref sM, .ref sP, .ref sA, .int 0])), (hH, .inl (cI, 7, (.inl (upd fh (0 : Int32).toNatClampNeg 1)))), (hT, .inl (cJ, 7, (.inr (.inl (vp_updL ft (0 : Int32).toNatClampNeg 1))))), (hM, .inl (cJ, 6, (.inr (.inl (vp_updL (fun _ => 0) (0 : Int32).toNatClampNeg 1)))))]) [0, 1, 2, 3, 4, 5] rfl
  have hD9 := hD.sub (ws' := [(x0, .inr (10, [.ref xTape, .ref xReader, .ref xBag, .ref xBld, .ref xAng, .ref xSum, .ref xPik, .int 0, .ref xHan, .ref xIns, .ref xShr, .ref xSta, .ref xTur])), (xHan, .inr (3, [.int 0, .int 1, .int 1, .ref hH, .ref hR, .ref hT, .ref hM])), (xSum, .inr (8, [.ref sM, .ref sP, .ref sA, .int 0])), (hH, .inl (cI, 7, (.inl (upd fh (0 : Int32).toNatClampNeg 1)))), (hT, .inl (cJ, 7, (.inr (.inl (vp_updL ft (0 : Int32).toNatClampNeg 1))))), (hM, .inl (cJ, 6, (.inr (.inl (vp_updL (fun _ => 0) (0 : Int32).toNatClampNeg 1)))))]) [0, 1, 2, 3, 4, 5] (by decide) rfl
  refine W.widen (k := 0) (n := 0) (Nat.le_of_ble_eq_true rfl) (Nat.le_of_ble_eq_true rfl) ?_
  exact W.vret hx hb hr (fun t ht hW => ⟨⟨(), rfl, trivial, by rw [ht]; exact hP9, va_K.moved hW.alike hK, hD9⟩, hS.F ht⟩) hS.2.2 dX10_hangSolids_41
set_option maxHeartbeats 4000000 in
set_option maxRecDepth 100000 in
theorem c_X10_hangSolids_3 (l : Launch) (dC : Nat → ClassId) (dI : Nat → Nat → Nat) (cB cI cJ : ClassId) (sz : Nat) (x0 xTape xReader xBag xBld xAng xSum xPik xHan xIns xShr xSta xTur sM sP sA hH hR hT hM : Nat) (fh : Nat → Int32) (ft : Nat → Int64) : Met l yX10_hangSolids wsX10_hangSolids ({ frames := 5, cells := 0, slots := 0, locals := 118 }) (va_Pc [.ref x0, .int 3] (fun U => U.heap.size = sz ∧ va_P (dC, dI) vwCl [(x0, .inr (10, [.ref xTape, .ref xReader, .ref xBag, .ref xBld, .ref xAng, .ref xSum, .ref xPik, .int 0, .ref xHan, .ref xIns, .ref xShr, .ref xSta, .ref xTur])), (xSum, .inr (8, [.ref sM, .ref sP, .ref sA, .int 0])), (xHan, .inr (3, [.int 0, .int 0, .int 0, .ref hH, .ref hR, .ref hT, .ref hM])), (hH, .inl (cI, 7, (.inl fh))), (hT, .inl (cJ, 7, (.inr (.inl ft)))), (hM, .inl (cJ, 6, (.inr (.inl (fun _ => 0)))))] U.heap ∧ va_K (dC, dI) vwCl [(cB, .byte), (cI, .int), (cJ, .long)] U ∧ va_D (fun _ => True) [(x0, .inr (10, [.ref xTape, .ref xReader, .ref xBag, .ref xBld, .ref xAng, .ref xSum, .ref xPik, .int 0, .ref xHan, .ref xIns, .ref xShr, .ref xSta, .ref xTur])), (xSum, .inr (8, [.ref sM, .ref sP, .ref sA, .int 0])), (xHan, .inr (3, [.int 0, .int 0, .int 0, .ref hH, .ref hR, .ref hT, .ref hM])), (hH, .inl (cI, 7, (.inl fh))), (hT, .inl (cJ, 7, (.inr (.inl ft)))), (hM, .inl (cJ, 6, (.inr (.inl (fun _ => 0)))))] ∧ va_Nw (.methodLinkNest RX3 62 yX10_gcd "ScissorsTable") U)) (va_Qv (fun _ : Unit => True) (fun _ t => va_P (dC, dI) vwCl [(x0, .inr (10, [.ref xTape, .ref xReader, .ref xBag, .ref xBld, .ref xAng, .ref xSum, .ref xPik, .int 0, .ref xHan, .ref xIns, .ref xShr, .ref xSta, .ref xTur])), (xHan, .inr (3, [.int 0, .int 2, .int 1, .ref hH, .ref hR, .ref hT, .ref hM])), (xSum, .inr (8, [.ref sM, .ref sP, .ref sA, .int 0])), (hH, .inl (cI, 7, (.inl (upd (upd fh (0 : Int32).toNatClampNeg 0) (0 : Int32).toNatClampNeg 1)))), (hT, .inl (cJ, 7, (.inr (.inl (vp_updL (vp_updL ft (0 : Int32).toNatClampNeg 1) (0 : Int32).toNatClampNeg 1))))), (hM, .inl (cJ, 6, (.inr (.inl (vp_updL (fun _ => 0) (0 : Int32).toNatClampNeg 1)))))] t.heap ∧ va_K (dC, dI) vwCl [(cB, .byte), (cI, .int), (cJ, .long)] t ∧ va_D (va_A [(x0, .inr (10, [.ref xTape, .ref xReader, .ref xBag, .ref xBld, .ref xAng, .ref xSum, .ref xPik, .int 0, .ref xHan, .ref xIns, .ref xShr, .ref xSta, .ref xTur])), (xSum, .inr (8, [.ref sM, .ref sP, .ref sA, .int 0])), (xHan, .inr (3, [.int 0, .int 0, .int 0, .ref hH, .ref hR, .ref hT, .ref hM])), (hH, .inl (cI, 7, (.inl fh))), (hT, .inl (cJ, 7, (.inr (.inl ft)))), (hM, .inl (cJ, 6, (.inr (.inl (fun _ => 0)))))] sz) [(x0, .inr (10, [.ref xTape, .ref xReader, .ref xBag, .ref xBld, .ref xAng, .ref xSum, .ref xPik, .int 0, .ref xHan, .ref xIns, .ref xShr, .ref xSta, .ref xTur])), (xHan, .inr (3, [.int 0, .int 2, .int 1, .ref hH, .ref hR, .ref hT, .ref hM])), (xSum, .inr (8, [.ref sM, .ref sP, .ref sA, .int 0])), (hH, .inl (cI, 7, (.inl (upd (upd fh (0 : Int32).toNatClampNeg 0) (0 : Int32).toNatClampNeg 1)))), (hT, .inl (cJ, 7, (.inr (.inl (vp_updL (vp_updL ft (0 : Int32).toNatClampNeg 1) (0 : Int32).toNatClampNeg 1))))), (hM, .inl (cJ, 6, (.inr (.inl (vp_updL (fun _ => 0) (0 : Int32).toNatClampNeg 1)))))]) (va_A [(x0, .inr (10, [.ref xTape, .ref xReader, .ref xBag, .ref xBld, .ref xAng, .ref xSum, .ref xPik, .int 0, .ref xHan, .ref xIns, .ref xShr, .ref xSta, .ref xTur])), (xSum, .inr (8, [.ref sM, .ref sP, .ref sA, .int 0])), (xHan, .inr (3, [.int 0, .int 0, .int 0, .ref hH, .ref hR, .ref hT, .ref hM])), (hH, .inl (cI, 7, (.inl fh))), (hT, .inl (cJ, 7, (.inr (.inl ft)))), (hM, .inl (cJ, 6, (.inr (.inl (fun _ => 0)))))] sz)) 0 0 (va_A [(x0, .inr (10, [.ref xTape, .ref xReader, .ref xBag, .ref xBld, .ref xAng, .ref xSum, .ref xPik, .int 0, .ref xHan, .ref xIns, .ref xShr, .ref xSta, .ref xTur])), (xSum, .inr (8, [.ref sM, .ref sP, .ref sA, .int 0])), (xHan, .inr (3, [.int 0, .int 0, .int 0, .ref hH, .ref hR, .ref hT, .ref hM])), (hH, .inl (cI, 7, (.inl fh))), (hT, .inl (cJ, 7, (.inr (.inl ft)))), (hM, .inl (cJ, 6, (.inr (.inl (fun _ => 0)))))] sz) := by
  refine Met.ofW (cc := cX10_hangSolids) (maxL := 3) (ret := none) (by decide) rfl ?_
  intro p e s m args below meth c s₁ B hml hv
  obtain ⟨rfl, hsz, hP, hK, hD0, hN0⟩ := hv
  have hx := B.exec
  have hb := B.bytes
  have hr := B.returns
  have hts := atoms_spec (ws := wsX10_hangSolids) B.pre
  have hown : s.vm.findClass RX10 = some m.cls := findClass_of_methodNamed B.named
  have hlocks := B.notSynchronized
  have hiX10 : ∀ w ∈ u_ws RX10 TX10 13, w ∈ wsX10_hangSolids := by decide +kernel
  subst hsz
  have hD := hD0.self (sz := s.heap.size)
  generalize hAe : va_A [(x0, .inr (10, [.ref xTape, .ref xReader, .ref xBag, .ref xBld, .ref xAng, .ref xSum, .ref xPik, .int 0, .ref xHan, .ref xIns, .ref xShr, .ref xSta, .ref xTur])), (xSum, .inr (8, [.ref sM, .ref sP, .ref sA, .int 0])), (xHan, .inr (3, [.int 0, .int 0, .int 0, .ref hH, .ref hR, .ref hT, .ref hM])), (hH, .inl (cI, 7, (.inl fh))), (hT, .inl (cJ, 7, (.inr (.inl ft)))), (hM, .inl (cJ, 6, (.inr (.inl (fun _ => 0)))))] s.heap.size = A at hD ⊢
  have hA : ∀ q : Nat, s.heap.size ≤ q → A q := fun q h => by rw [← hAe]; exact Or.inr h
  have hS : va_S A s.heap s.heap [] := va_S.rf
  have hP : va_P (dC, dI) vwCl [(x0, .inr (10, [.ref xTape, .ref xReader, .ref xBag, .ref xBld, .ref xAng, .ref xSum, .ref xPik, .int 0, .ref xHan, .ref xIns, .ref xShr, .ref xSta, .ref xTur])), (xSum, .inr (8, [.ref sM, .ref sP, .ref sA, .int 0])), (xHan, .inr (3, [.int 0, .int 0, .int 0, .ref hH, .ref hR, .ref hT, .ref hM])), (hH, .inl (cI, 7, (.inl fh))), (hT, .inl (cJ, 7, (.inr (.inl ft)))), (hM, .inl (cJ, 6, (.inr (.inl (fun _ => 0)))))] s.heap := hP
  have hl := lv_entry ([.ref x0, .int 3]) (n := 3) (Nat.le_of_ble_eq_true rfl)
  rw [lg_entry_eq]
  generalize (lg_sl ([.ref x0, .int 3]) ++ List.replicate (3 - (lg_sl ([.ref x0, .int 3])).length) Slot.unset).toArray = ls at hl ⊢
  have hl : lv_has ls 3 [(0, .ref x0), (1, .int 3)] := hl
  refine lv_aload_n hx hb dX10_hangSolids_0 rfl (lv_at hl 0 rfl) ?_
  refine va_get (D := (dC, dI)) (ci := 10) (v := .ref xHan) (C := RX10) (T := TX10) (N := 13) hx hb hts hiX10 hown hK hP 0 rfl rfl 8 (by decide) (hts (.fieldLink RX10 61 "ScissorsTable" "hang" "LScissorsTable$Hang;") (by decide +kernel)) (fun _ h9 => h9) rfl dX10_hangSolids_1 ?_
  have hPc := hP.sub (ws' := [(xHan, .inr (3, [.int 0, .int 0, .int 0, .ref hH, .ref hR, .ref hT, .ref hM]))]) [2] rfl
  have hDc := hD.sub (ws' := [(xHan, .inr (3, [.int 0, .int 0, .int 0, .ref hH, .ref hR, .ref hT, .ref hM]))]) [2] (by decide) rfl
  have hFc := va_free (wc := [(xHan, .inr (3, [.int 0, .int 0, .int 0, .ref hH, .ref hR, .ref hT, .ref hM]))]) hD hS hA [2] rfl
  refine va_callv (va_runV (As := []) (rest := []) ⟨hx, hb, hml, hown, hts⟩ (c_X3_begin l dC dI cB cI cJ s.heap.size xHan hH hR hT hM) (cwV 0 hts gX10_hangSolids_X3_begin rfl rfl rfl (by decide +kernel) ⟨Nat.le_of_ble_eq_true rfl, Nat.le_of_ble_eq_true rfl⟩) ⟨fun a U g mk q => by obtain ⟨q0, q1, qP, qK, qD⟩ := q; exact ⟨q0, q1, qP, va_K.moved (u := U) (U := U.calling g mk a) (Vm.Alike.refl U.vm) qK, qD⟩, va_recv hK hP (ci := 3) (q0 := 2) rfl rfl, fun U hU hW => ⟨rfl, by rw [hU], by rw [hU]; exact hPc, va_K.moved hW.alike hK, hDc.weaken (fun _ _ _ _ => trivial)⟩⟩ rfl rfl hl.1 rfl (lv_room (Nat.le_of_ble_eq_true rfl)) dX10_hangSolids_4 ⟨Nat.le_of_ble_eq_true rfl, Nat.le_of_ble_eq_true rfl⟩) hS (fun q _ h => hFc q h) hFc (fun u t H1 locs ht hvm hw hB hz1 hk1 hS => ?_)
  obtain ⟨hP1, hK1, hD1⟩ := hB
  rw [ht] at hP1
  obtain ⟨hP, hD⟩ := va_join (wr := [(x0, .inr (10, [.ref xTape, .ref xReader, .ref xBag, .ref xBld, .ref xAng, .ref xSum, .ref xPik, .int 0, .ref xHan, .ref xIns, .ref xShr, .ref xSta, .ref xTur])), (xSum, .inr (8, [.ref sM, .ref sP, .ref sA, .int 0])), (hH, .inl (cI, 7, (.inl fh))), (hT, .inl (cJ, 7, (.inr (.inl ft)))), (hM, .inl (cJ, 6, (.inr (.inl (fun _ => 0)))))]) (w1 := [(xHan, .inr (3, [.int 0, .int 0, .int 0, .ref hH, .ref hR, .ref hT, .ref hM]))]) hP hD [2] [0, 1, 3, 4, 5] rfl rfl (by decide) (by decide) hk1 hFc hP1 hD1
  generalize H1 = H at hP hS ⊢
  have hP : va_P (dC, dI) vwCl [(x0, .inr (10, [.ref xTape, .ref xReader, .ref xBag, .ref xBld, .ref xAng, .ref xSum, .ref xPik, .int 0, .ref xHan, .ref xIns, .ref xShr, .ref xSta, .ref xTur])), (xSum, .inr (8, [.ref sM, .ref sP, .ref sA, .int 0])), (hH, .inl (cI, 7, (.inl fh))), (hT, .inl (cJ, 7, (.inr (.inl ft)))), (hM, .inl (cJ, 6, (.inr (.inl (fun _ => 0))))), (xHan, .inr (3, [.int 0, .int 0, .int 0, .ref hH, .ref hR, .ref hT, .ref hM]))] H := hP
  have hD : va_D A [(x0, .inr (10, [.ref xTape, .ref xReader, .ref xBag, .ref xBld, .ref xAng, .ref xSum, .ref xPik, .int 0, .ref xHan, .ref xIns, .ref xShr, .ref xSta, .ref xTur])), (xSum, .inr (8, [.ref sM, .ref sP, .ref sA, .int 0])), (hH, .inl (cI, 7, (.inl fh))), (hT, .inl (cJ, 7, (.inr (.inl ft)))), (hM, .inl (cJ, 6, (.inr (.inl (fun _ => 0))))), (xHan, .inr (3, [.int 0, .int 0, .int 0, .ref hH, .ref hR, .ref hT, .ref hM]))] := hD
  refine lv_iconst (v := 0) hx hb dX10_hangSolids_7 (by decide) ?_
  refine lv_istore_n (lv' := [(2, .int 0), (0, .ref x0), (1, .int 3)]) hx hb dX10_hangSolids_8 rfl hl (by decide) rfl (fun ls hl => ?_)
  refine lv_iload_n hx hb dX10_hangSolids_9 rfl (lv_at hl 0 rfl) ?_
  refine lv_iconst (v := 4) hx hb dX10_hangSolids_10 (by decide) ?_
  refine lv_icmp_ge (tgt := 41) hx hb dX10_hangSolids_11 (by decide) (fun c => absurd c (by decide)) (fun _ => ?_)
  refine lv_iload_n hx hb dX10_hangSolids_14 rfl (lv_at hl 2 rfl) ?_
  refine lv_iload_n hx hb dX10_hangSolids_15 rfl (lv_at hl 0 rfl) ?_
  refine lv_ishr hx hb dX10_hangSolids_16 ?_
  refine lv_topi (fun x_1 ex_1 => ?_)
  obtain rfl : x_1 = 3 := ex_1.trans (by first | rfl | decide)
  refine lv_iconst (v := 1) hx hb dX10_hangSolids_17 (by decide) ?_
  refine lv_iand hx hb dX10_hangSolids_18 ?_
  refine lv_topi (fun x_2 ex_2 => ?_)
  obtain rfl : x_2 = 1 := ex_2.trans (by first | rfl | decide)
  refine lv_iconst (v := 1) hx hb dX10_hangSolids_19 (by decide) ?_
  refine lv_icmp_ne (tgt := 35) hx hb dX10_hangSolids_20 (by decide) (fun c => absurd (by decide) c) (fun _ => ?_)
  refine lv_aload_n hx hb dX10_hangSolids_23 rfl (lv_at hl 1 rfl) ?_
  refine va_get (D := (dC, dI)) (ci := 10) (v := .ref xHan) (C := RX10) (T := TX10) (N := 13) hx hb hts hiX10 hown hK hP 0 rfl rfl 8 (by decide) (hts (.fieldLink RX10 61 "ScissorsTable" "hang" "LScissorsTable$Hang;") (by decide +kernel)) (fun _ h9 => h9) rfl dX10_hangSolids_24 ?_
  refine lv_aload_n hx hb dX10_hangSolids_27 rfl (lv_at hl 1 rfl) ?_
  refine va_get (D := (dC, dI)) (ci := 10) (v := .ref xSum) (C := RX10) (T := TX10) (N := 13) hx hb hts hiX10 hown hK hP 0 rfl rfl 5 (by decide) (hts (.fieldLink RX10 51 "ScissorsTable" "sums" "LScissorsTable$Sums;") (by decide +kernel)) (fun _ h9 => h9) rfl dX10_hangSolids_28 ?_
  refine lv_iload_n hx hb dX10_hangSolids_31 rfl (lv_at hl 0 rfl) ?_
  have hPc := hP.sub (ws' := [(xSum, .inr (8, [.ref sM, .ref sP, .ref sA, .int 0])), (xHan, .inr (3, [.int 0, .int 0, .int 0, .ref hH, .ref hR, .ref hT, .ref hM])), (hH, .inl (cI, 7, (.inl fh))), (hT, .inl (cJ, 7, (.inr (.inl ft)))), (hM, .inl (cJ, 6, (.inr (.inl (fun _ => 0)))))]) [1, 5, 2, 3, 4] rfl
  have hDc := hD.sub (ws' := [(xSum, .inr (8, [.ref sM, .ref sP, .ref sA, .int 0])), (xHan, .inr (3, [.int 0, .int 0, .int 0, .ref hH, .ref hR, .ref hT, .ref hM])), (hH, .inl (cI, 7, (.inl fh))), (hT, .inl (cJ, 7, (.inr (.inl ft)))), (hM, .inl (cJ, 6, (.inr (.inl (fun _ => 0)))))]) [1, 5, 2, 3, 4] (by decide) rfl
  have hFc := va_free (wc := [(xSum, .inr (8, [.ref sM, .ref sP, .ref sA, .int 0])), (xHan, .inr (3, [.int 0, .int 0, .int 0, .ref hH, .ref hR, .ref hT, .ref hM])), (hH, .inl (cI, 7, (.inl fh))), (hT, .inl (cJ, 7, (.inr (.inl ft)))), (hM, .inl (cJ, 6, (.inr (.inl (fun _ => 0)))))]) hD hS hA [1, 5, 2, 3, 4] rfl
  refine va_callv (va_runV (As := [.ref xSum, .int 0]) (rest := []) ⟨hx, hb, hml, hown, hts⟩ (c_X3_next_t0 l dC dI cB cI cJ H.size xSum sM sP sA xHan hH hR hT hM 0 fh ft) (cwV 2 hts gX10_hangSolids_X3_next rfl rfl rfl (by decide +kernel) ⟨Nat.le_of_ble_eq_true rfl, Nat.le_of_ble_eq_true rfl⟩) ⟨fun a U g mk q => by obtain ⟨q0, q1, qP, qK, qD, qN0⟩ := q; exact ⟨q0, q1, qP, va_K.moved (u := U) (U := U.calling g mk a) (Vm.Alike.refl U.vm) qK, qD, va_Nw.same rfl rfl qN0⟩, va_recv hK hP (ci := 3) (q0 := 5) rfl rfl, fun U hU hW => ⟨rfl, by rw [hU], by rw [hU]; exact hPc, va_K.moved hW.alike hK, hDc.weaken (fun _ _ _ _ => trivial), va_Nw.warmM hW hN0⟩⟩ rfl rfl hl.1 rfl (lv_room (Nat.le_of_ble_eq_true rfl)) dX10_hangSolids_32 ⟨Nat.le_of_ble_eq_true rfl, Nat.le_of_ble_eq_true rfl⟩) hS (fun q _ h => hFc q h) hFc (fun u t H1 locs ht hvm hw hB hz1 hk1 hS => ?_)
  obtain ⟨hP1, hK1, hD1⟩ := hB
  rw [ht] at hP1
  obtain ⟨hP, hD⟩ := va_join (wr := [(x0, .inr (10, [.ref xTape, .ref xReader, .ref xBag, .ref xBld, .ref xAng, .ref xSum, .ref xPik, .int 0, .ref xHan, .ref xIns, .ref xShr, .ref xSta, .ref xTur]))]) (w1 := [(xHan, .inr (3, [.int 0, .int 1, .int 1, .ref hH, .ref hR, .ref hT, .ref hM])), (xSum, .inr (8, [.ref sM, .ref sP, .ref sA, .int 0])), (hH, .inl (cI, 7, (.inl (upd fh (0 : Int32).toNatClampNeg 0)))), (hT, .inl (cJ, 7, (.inr (.inl (vp_updL ft (0 : Int32).toNatClampNeg 1))))), (hM, .inl (cJ, 6, (.inr (.inl (vp_updL (fun _ => 0) (0 : Int32).toNatClampNeg 1)))))]) hP hD [1, 5, 2, 3, 4] [0] rfl rfl (by decide) (by decide) hk1 hFc hP1 hD1
  generalize H1 = H at hP hS ⊢
  have hP : va_P (dC, dI) vwCl [(x0, .inr (10, [.ref xTape, .ref xReader, .ref xBag, .ref xBld, .ref xAng, .ref xSum, .ref xPik, .int 0, .ref xHan, .ref xIns, .ref xShr, .ref xSta, .ref xTur])), (xHan, .inr (3, [.int 0, .int 1, .int 1, .ref hH, .ref hR, .ref hT, .ref hM])), (xSum, .inr (8, [.ref sM, .ref sP, .ref sA, .int 0])), (hH, .inl (cI, 7, (.inl (upd fh (0 : Int32).toNatClampNeg 0)))), (hT, .inl (cJ, 7, (.inr (.inl (vp_updL ft (0 : Int32).toNatClampNeg 1))))), (hM, .inl (cJ, 6, (.inr (.inl (vp_updL (fun _ => 0) (0 : Int32).toNatClampNeg 1)))))] H := hP
  have hD : va_D A [(x0, .inr (10, [.ref xTape, .ref xReader, .ref xBag, .ref xBld, .ref xAng, .ref xSum, .ref xPik, .int 0, .ref xHan, .ref xIns, .ref xShr, .ref xSta, .ref xTur])), (xHan, .inr (3, [.int 0, .int 1, .int 1, .ref hH, .ref hR, .ref hT, .ref hM])), (xSum, .inr (8, [.ref sM, .ref sP, .ref sA, .int 0])), (hH, .inl (cI, 7, (.inl (upd fh (0 : Int32).toNatClampNeg 0)))), (hT, .inl (cJ, 7, (.inr (.inl (vp_updL ft (0 : Int32).toNatClampNeg 1))))), (hM, .inl (cJ, 6, (.inr (.inl (vp_updL (fun _ => 0) (0 : Int32).toNatClampNeg 1)))))] := hD
  refine lv_iinc (v := 1) (lv' := [(2, .int 1), (0, .ref x0), (1, .int 3)]) hx hb dX10_hangSolids_35 hl (k := 0) rfl (by decide) (by decide) rfl (fun ls hl => ?_)
  refine lv_goto (tgt := 9) hx hb dX10_hangSolids_38 (by decide) ?_
  refine lv_iload_n hx hb dX10_hangSolids_9 rfl (lv_at hl 0 rfl) ?_
  refine lv_iconst (v := 4) hx hb dX10_hangSolids_10 (by decide) ?_
  refine lv_icmp_ge (tgt := 41) hx hb dX10_hangSolids_11 (by decide) (fun c => absurd c (by decide)) (fun _ => ?_)
  refine lv_iload_n hx hb dX10_hangSolids_14 rfl (lv_at hl 2 rfl) ?_
  refine lv_iload_n hx hb dX10_hangSolids_15 rfl (lv_at hl 0 rfl) ?_
  refine lv_ishr hx hb dX10_hangSolids_16 ?_
  refine lv_topi (fun x_3 ex_3 => ?_)
  obtain rfl : x_3 = 1 := ex_3.trans (by first | rfl | decide)
  refine lv_iconst (v := 1) hx hb dX10_hangSolids_17 (by decide) ?_
  refine lv_iand hx hb dX10_hangSolids_18 ?_
  refine lv_topi (fun x_4 ex_4 => ?_)
  obtain rfl : x_4 = 1 := ex_4.trans (by first | rfl | decide)
  refine lv_iconst (v := 1) hx hb dX10_hangSolids_19 (by decide) ?_
  refine lv_icmp_ne (tgt := 35) hx hb dX10_hangSolids_20 (by decide) (fun c => absurd (by decide) c) (fun _ => ?_)
  refine lv_aload_n hx hb dX10_hangSolids_23 rfl (lv_at hl 1 rfl) ?_
  refine va_get (D := (dC, dI)) (ci := 10) (v := .ref xHan) (C := RX10) (T := TX10) (N := 13) hx hb hts hiX10 hown hK hP 0 rfl rfl 8 (by decide) (hts (.fieldLink RX10 61 "ScissorsTable" "hang" "LScissorsTable$Hang;") (by decide +kernel)) (fun _ h9 => h9) rfl dX10_hangSolids_24 ?_
  refine lv_aload_n hx hb dX10_hangSolids_27 rfl (lv_at hl 1 rfl) ?_
  refine va_get (D := (dC, dI)) (ci := 10) (v := .ref xSum) (C := RX10) (T := TX10) (N := 13) hx hb hts hiX10 hown hK hP 0 rfl rfl 5 (by decide) (hts (.fieldLink RX10 51 "ScissorsTable" "sums" "LScissorsTable$Sums;") (by decide +kernel)) (fun _ h9 => h9) rfl dX10_hangSolids_28 ?_
  refine lv_iload_n hx hb dX10_hangSolids_31 rfl (lv_at hl 0 rfl) ?_
  have hPc := hP.sub (ws' := [(xSum, .inr (8, [.ref sM, .ref sP, .ref sA, .int 0])), (xHan, .inr (3, [.int 0, .int 1, .int 1, .ref hH, .ref hR, .ref hT, .ref hM])), (hH, .inl (cI, 7, (.inl (upd fh (0 : Int32).toNatClampNeg 0)))), (hT, .inl (cJ, 7, (.inr (.inl (vp_updL ft (0 : Int32).toNatClampNeg 1)))))]) [2, 1, 3, 4] rfl
  have hDc := hD.sub (ws' := [(xSum, .inr (8, [.ref sM, .ref sP, .ref sA, .int 0])), (xHan, .inr (3, [.int 0, .int 1, .int 1, .ref hH, .ref hR, .ref hT, .ref hM])), (hH, .inl (cI, 7, (.inl (upd fh (0 : Int32).toNatClampNeg 0)))), (hT, .inl (cJ, 7, (.inr (.inl (vp_updL ft (0 : Int32).toNatClampNeg 1)))))]) [2, 1, 3, 4] (by decide) rfl
  have hFc := va_free (wc := [(xSum, .inr (8, [.ref sM, .ref sP, .ref sA, .int 0])), (xHan, .inr (3, [.int 0, .int 1, .int 1, .ref hH, .ref hR, .ref hT, .ref hM])), (hH, .inl (cI, 7, (.inl (upd fh (0 : Int32).toNatClampNeg 0)))), (hT, .inl (cJ, 7, (.inr (.inl (vp_updL ft (0 : Int32).toNatClampNeg 1)))))]) hD hS hA [2, 1, 3, 4] rfl
  refine va_callv (va_runV (As := [.ref xSum, .int 1]) (rest := []) ⟨hx, hb, hml, hown, hts⟩ (c_X3_next_t1 l dC dI cB cI cJ H.size xSum sM sP sA xHan hH hR hT hM 1 (upd fh (0 : Int32).toNatClampNeg 0) (vp_updL ft (0 : Int32).toNatClampNeg 1)) (cwV 2 hts gX10_hangSolids_X3_next rfl rfl rfl (by decide +kernel) ⟨Nat.le_of_ble_eq_true rfl, Nat.le_of_ble_eq_true rfl⟩) ⟨fun a U g mk q => by obtain ⟨q0, q1, qP, qK, qD⟩ := q; exact ⟨q0, q1, qP, va_K.moved (u := U) (U := U.calling g mk a) (Vm.Alike.refl U.vm) qK, qD⟩, va_recv hK hP (ci := 3) (q0 := 1) rfl rfl, fun U hU hW => ⟨rfl, by rw [hU], by rw [hU]; exact hPc, va_K.moved hW.alike hK, hDc.weaken (fun _ _ _ _ => trivial)⟩⟩ rfl rfl hl.1 rfl (lv_room (Nat.le_of_ble_eq_true rfl)) dX10_hangSolids_32 ⟨Nat.le_of_ble_eq_true rfl, Nat.le_of_ble_eq_true rfl⟩) hS (fun q _ h => hFc q h) hFc (fun u t H1 locs ht hvm hw hB hz1 hk1 hS => ?_)
  obtain ⟨hP1, hK1, hD1⟩ := hB
  rw [ht] at hP1
  obtain ⟨hP, hD⟩ := va_join (wr := [(x0, .inr (10, [.ref xTape, .ref xReader, .ref xBag, .ref xBld, .ref xAng, .ref xSum, .ref xPik, .int 0, .ref xHan, .ref xIns, .ref xShr, .ref xSta, .ref xTur])), (hM, .inl (cJ, 6, (.inr (.inl (vp_updL (fun _ => 0) (0 : Int32).toNatClampNeg 1)))))]) (w1 := [(xHan, .inr (3, [.int 0, .int 2, .int 1, .ref hH, .ref hR, .ref hT, .ref hM])), (xSum, .inr (8, [.ref sM, .ref sP, .ref sA, .int 0])), (hH, .inl (cI, 7, (.inl (upd (upd fh (0 : Int32).toNatClampNeg 0) (0 : Int32).toNatClampNeg 1)))), (hT, .inl (cJ, 7, (.inr (.inl (vp_updL (vp_updL ft (0 : Int32).toNatClampNeg 1) (0 : Int32).toNatClampNeg 1)))))]) hP hD [2, 1, 3, 4] [0, 5] rfl rfl (by decide) (by decide) hk1 hFc hP1 hD1
  generalize H1 = H at hP hS ⊢
  have hP : va_P (dC, dI) vwCl [(x0, .inr (10, [.ref xTape, .ref xReader, .ref xBag, .ref xBld, .ref xAng, .ref xSum, .ref xPik, .int 0, .ref xHan, .ref xIns, .ref xShr, .ref xSta, .ref xTur])), (hM, .inl (cJ, 6, (.inr (.inl (vp_updL (fun _ => 0) (0 : Int32).toNatClampNeg 1))))), (xHan, .inr (3, [.int 0, .int 2, .int 1, .ref hH, .ref hR, .ref hT, .ref hM])), (xSum, .inr (8, [.ref sM, .ref sP, .ref sA, .int 0])), (hH, .inl (cI, 7, (.inl (upd (upd fh (0 : Int32).toNatClampNeg 0) (0 : Int32).toNatClampNeg 1)))), (hT, .inl (cJ, 7, (.inr (.inl (vp_updL (vp_updL ft (0 : Int32).toNatClampNeg 1) (0 : Int32).toNatClampNeg 1)))))] H := hP
  have hD : va_D A [(x0, .inr (10, [.ref xTape, .ref xReader, .ref xBag, .ref xBld, .ref xAng, .ref xSum, .ref xPik, .int 0, .ref xHan, .ref xIns, .ref xShr, .ref xSta, .ref xTur])), (hM, .inl (cJ, 6, (.inr (.inl (vp_updL (fun _ => 0) (0 : Int32).toNatClampNeg 1))))), (xHan, .inr (3, [.int 0, .int 2, .int 1, .ref hH, .ref hR, .ref hT, .ref hM])), (xSum, .inr (8, [.ref sM, .ref sP, .ref sA, .int 0])), (hH, .inl (cI, 7, (.inl (upd (upd fh (0 : Int32).toNatClampNeg 0) (0 : Int32).toNatClampNeg 1)))), (hT, .inl (cJ, 7, (.inr (.inl (vp_updL (vp_updL ft (0 : Int32).toNatClampNeg 1) (0 : Int32).toNatClampNeg 1)))))] := hD
  refine lv_iinc (v := 2) (lv' := [(2, .int 2), (0, .ref x0), (1, .int 3)]) hx hb dX10_hangSolids_35 hl (k := 0) rfl (by decide) (by decide) rfl (fun ls hl => ?_)
  refine lv_goto (tgt := 9) hx hb dX10_hangSolids_38 (by decide) ?_
  refine lv_iload_n hx hb dX10_hangSolids_9 rfl (lv_at hl 0 rfl) ?_
  refine lv_iconst (v := 4) hx hb dX10_hangSolids_10 (by decide) ?_
  refine lv_icmp_ge (tgt := 41) hx hb dX10_hangSolids_11 (by decide) (fun c => absurd c (by decide)) (fun _ => ?_)
  refine lv_iload_n hx hb dX10_hangSolids_14 rfl (lv_at hl 2 rfl) ?_
  refine lv_iload_n hx hb dX10_hangSolids_15 rfl (lv_at hl 0 rfl) ?_
  refine lv_ishr hx hb dX10_hangSolids_16 ?_
  refine lv_topi (fun x_5 ex_5 => ?_)
  obtain rfl : x_5 = 0 := ex_5.trans (by first | rfl | decide)
  refine lv_iconst (v := 1) hx hb dX10_hangSolids_17 (by decide) ?_
  refine lv_iand hx hb dX10_hangSolids_18 ?_
  refine lv_topi (fun x_6 ex_6 => ?_)
  obtain rfl : x_6 = 0 := ex_6.trans (by first | rfl | decide)
  refine lv_iconst (v := 1) hx hb dX10_hangSolids_19 (by decide) ?_
  refine lv_icmp_ne (tgt := 35) hx hb dX10_hangSolids_20 (by decide) (fun _ => ?_) (fun c => absurd c (by decide))
  refine lv_iinc (v := 3) (lv' := [(2, .int 3), (0, .ref x0), (1, .int 3)]) hx hb dX10_hangSolids_35 hl (k := 0) rfl (by decide) (by decide) rfl (fun ls hl => ?_)
  refine lv_goto (tgt := 9) hx hb dX10_hangSolids_38 (by decide) ?_
  refine lv_iload_n hx hb dX10_hangSolids_9 rfl (lv_at hl 0 rfl) ?_
  refine lv_iconst (v := 4) hx hb dX10_hangSolids_10 (by decide) ?_
  refine lv_icmp_ge (tgt := 41) hx hb dX10_hangSolids_11 (by decide) (fun c => absurd c (by decide)) (fun _ => ?_)
  refine lv_iload_n hx hb dX10_hangSolids_14 rfl (lv_at hl 2 rfl) ?_
  refine lv_iload_n hx hb dX10_hangSolids_15 rfl (lv_at hl 0 rfl) ?_
  refine lv_ishr hx hb dX10_hangSolids_16 ?_
  refine lv_topi (fun x_7 ex_7 => ?_)
  obtain rfl : x_7 = 0 := ex_7.trans (by first | rfl | decide)
  refine lv_iconst (v := 1) hx hb dX10_hangSolids_17 (by decide) ?_
  refine lv_iand hx hb dX10_hangSolids_18 ?_
  refine lv_topi (fun x_8 ex_8 => ?_)
  obtain rfl : x_8 = 0 := ex_8.trans (by first | rfl | decide)
  refine lv_iconst (v := 1) hx hb dX10_hangSolids_19 (by decide) ?_
  refine lv_icmp_ne (tgt := 35) hx hb dX10_hangSolids_20 (by decide) (fun _ => ?_) (fun c => absurd c (by decide))
  refine lv_iinc (v := 4) (lv' := [(2, .int 4), (0, .ref x0), (1, .int 3)]) hx hb dX10_hangSolids_35 hl (k := 0) rfl (by decide) (by decide) rfl (fun ls hl => ?_)
  refine lv_goto (tgt := 9) hx hb dX10_hangSolids_38 (by decide) ?_
  refine lv_iload_n hx hb dX10_hangSolids_9 rfl (lv_at hl 0 rfl) ?_
  refine lv_iconst (v := 4) hx hb dX10_hangSolids_10 (by decide) ?_
  refine lv_icmp_ge (tgt := 41) hx hb dX10_hangSolids_11 (by decide) (fun _ => ?_) (fun c => absurd (by decide) c)
  have hP9 := hP.sub (ws' := [(x0, .inr (10, [.ref xTape, .ref xReader, .ref xBag, .ref xBld, .ref xAng, .ref xSum, .ref xPik, .int 0, .ref xHan, .ref xIns, .ref xShr, .ref xSta, .ref xTur])), (xHan, .inr (3, [.int 0, .int 2, .int 1, .ref hH, .ref hR, .ref hT, .ref hM])), (xSum, .inr (8, [.ref sM, .ref sP, .ref sA, .int 0])), (hH, .inl (cI, 7, (.inl (upd (upd fh (0 : Int32).toNatClampNeg 0) (0 : Int32).toNatClampNeg 1)))), (hT, .inl (cJ, 7, (.inr (.inl (vp_updL (vp_updL ft (0 : Int32).toNatClampNeg 1) (0 : Int32).toNatClampNeg 1))))), (hM, .inl (cJ, 6, (.inr (.inl (vp_updL (fun _ => 0) (0 : Int32).toNatClampNeg 1)))))]) [0, 2, 3, 4, 5, 1] rfl
  have hD9 := hD.sub (ws' := [(x0, .inr (10, [.ref xTape, .ref xReader, .ref xBag, .ref xBld, .ref xAng, .ref xSum, .ref xPik, .int 0, .ref xHan, .ref xIns, .ref xShr, .ref xSta, .ref xTur])), (xHan, .inr (3, [.int 0, .int 2, .int 1, .ref hH, .ref hR, .ref hT, .ref hM])), (xSum, .inr (8, [.ref sM, .ref sP, .ref sA, .int 0])), (hH, .inl (cI, 7, (.inl (upd (upd fh (0 : Int32).toNatClampNeg 0) (0 : Int32).toNatClampNeg 1)))), (hT, .inl (cJ, 7, (.inr (.inl (vp_updL (vp_updL ft (0 : Int32).toNatClampNeg 1) (0 : Int32).toNatClampNeg 1))))), (hM, .inl (cJ, 6, (.inr (.inl (vp_updL (fun _ => 0) (0 : Int32).toNatClampNeg 1)))))]) [0, 2, 3, 4, 5, 1] (by decide) rfl
  refine W.widen (k := 0) (n := 0) (Nat.le_of_ble_eq_true rfl) (Nat.le_of_ble_eq_true rfl) ?_
  exact W.vret hx hb hr (fun t ht hW => ⟨⟨(), rfl, trivial, by rw [ht]; exact hP9, va_K.moved hW.alike hK, hD9⟩, hS.F ht⟩) hS.2.2 dX10_hangSolids_41
set_option maxHeartbeats 4000000 in
set_option maxRecDepth 100000 in
theorem c_X10_hangSolids_4 (l : Launch) (dC : Nat → ClassId) (dI : Nat → Nat → Nat) (cB cI cJ : ClassId) (sz : Nat) (x0 xTape xReader xBag xBld xAng xSum xPik xHan xIns xShr xSta xTur sM sP sA hH hR hT hM : Nat) (fh : Nat → Int32) (ft : Nat → Int64) : Met l yX10_hangSolids wsX10_hangSolids ({ frames := 5, cells := 0, slots := 0, locals := 118 }) (va_Pc [.ref x0, .int 4] (fun U => U.heap.size = sz ∧ va_P (dC, dI) vwCl [(x0, .inr (10, [.ref xTape, .ref xReader, .ref xBag, .ref xBld, .ref xAng, .ref xSum, .ref xPik, .int 0, .ref xHan, .ref xIns, .ref xShr, .ref xSta, .ref xTur])), (xSum, .inr (8, [.ref sM, .ref sP, .ref sA, .int 0])), (xHan, .inr (3, [.int 0, .int 0, .int 0, .ref hH, .ref hR, .ref hT, .ref hM])), (hH, .inl (cI, 7, (.inl fh))), (hT, .inl (cJ, 7, (.inr (.inl ft)))), (hM, .inl (cJ, 6, (.inr (.inl (fun _ => 0)))))] U.heap ∧ va_K (dC, dI) vwCl [(cB, .byte), (cI, .int), (cJ, .long)] U ∧ va_D (fun _ => True) [(x0, .inr (10, [.ref xTape, .ref xReader, .ref xBag, .ref xBld, .ref xAng, .ref xSum, .ref xPik, .int 0, .ref xHan, .ref xIns, .ref xShr, .ref xSta, .ref xTur])), (xSum, .inr (8, [.ref sM, .ref sP, .ref sA, .int 0])), (xHan, .inr (3, [.int 0, .int 0, .int 0, .ref hH, .ref hR, .ref hT, .ref hM])), (hH, .inl (cI, 7, (.inl fh))), (hT, .inl (cJ, 7, (.inr (.inl ft)))), (hM, .inl (cJ, 6, (.inr (.inl (fun _ => 0)))))] ∧ va_Nw (.methodLinkNest RX3 62 yX10_gcd "ScissorsTable") U)) (va_Qv (fun _ : Unit => True) (fun _ t => va_P (dC, dI) vwCl [(x0, .inr (10, [.ref xTape, .ref xReader, .ref xBag, .ref xBld, .ref xAng, .ref xSum, .ref xPik, .int 0, .ref xHan, .ref xIns, .ref xShr, .ref xSta, .ref xTur])), (xHan, .inr (3, [.int 0, .int 1, .int 1, .ref hH, .ref hR, .ref hT, .ref hM])), (xSum, .inr (8, [.ref sM, .ref sP, .ref sA, .int 0])), (hH, .inl (cI, 7, (.inl (upd fh (0 : Int32).toNatClampNeg 2)))), (hT, .inl (cJ, 7, (.inr (.inl (vp_updL ft (0 : Int32).toNatClampNeg 1))))), (hM, .inl (cJ, 6, (.inr (.inl (vp_updL (fun _ => 0) (0 : Int32).toNatClampNeg 1)))))] t.heap ∧ va_K (dC, dI) vwCl [(cB, .byte), (cI, .int), (cJ, .long)] t ∧ va_D (va_A [(x0, .inr (10, [.ref xTape, .ref xReader, .ref xBag, .ref xBld, .ref xAng, .ref xSum, .ref xPik, .int 0, .ref xHan, .ref xIns, .ref xShr, .ref xSta, .ref xTur])), (xSum, .inr (8, [.ref sM, .ref sP, .ref sA, .int 0])), (xHan, .inr (3, [.int 0, .int 0, .int 0, .ref hH, .ref hR, .ref hT, .ref hM])), (hH, .inl (cI, 7, (.inl fh))), (hT, .inl (cJ, 7, (.inr (.inl ft)))), (hM, .inl (cJ, 6, (.inr (.inl (fun _ => 0)))))] sz) [(x0, .inr (10, [.ref xTape, .ref xReader, .ref xBag, .ref xBld, .ref xAng, .ref xSum, .ref xPik, .int 0, .ref xHan, .ref xIns, .ref xShr, .ref xSta, .ref xTur])), (xHan, .inr (3, [.int 0, .int 1, .int 1, .ref hH, .ref hR, .ref hT, .ref hM])), (xSum, .inr (8, [.ref sM, .ref sP, .ref sA, .int 0])), (hH, .inl (cI, 7, (.inl (upd fh (0 : Int32).toNatClampNeg 2)))), (hT, .inl (cJ, 7, (.inr (.inl (vp_updL ft (0 : Int32).toNatClampNeg 1))))), (hM, .inl (cJ, 6, (.inr (.inl (vp_updL (fun _ => 0) (0 : Int32).toNatClampNeg 1)))))]) (va_A [(x0, .inr (10, [.ref xTape, .ref xReader, .ref xBag, .ref xBld, .ref xAng, .ref xSum, .ref xPik, .int 0, .ref xHan, .ref xIns, .ref xShr, .ref xSta, .ref xTur])), (xSum, .inr (8, [.ref sM, .ref sP, .ref sA, .int 0])), (xHan, .inr (3, [.int 0, .int 0, .int 0, .ref hH, .ref hR, .ref hT, .ref hM])), (hH, .inl (cI, 7, (.inl fh))), (hT, .inl (cJ, 7, (.inr (.inl ft)))), (hM, .inl (cJ, 6, (.inr (.inl (fun _ => 0)))))] sz)) 0 0 (va_A [(x0, .inr (10, [.ref xTape, .ref xReader, .ref xBag, .ref xBld, .ref xAng, .ref xSum, .ref xPik, .int 0, .ref xHan, .ref xIns, .ref xShr, .ref xSta, .ref xTur])), (xSum, .inr (8, [.ref sM, .ref sP, .ref sA, .int 0])), (xHan, .inr (3, [.int 0, .int 0, .int 0, .ref hH, .ref hR, .ref hT, .ref hM])), (hH, .inl (cI, 7, (.inl fh))), (hT, .inl (cJ, 7, (.inr (.inl ft)))), (hM, .inl (cJ, 6, (.inr (.inl (fun _ => 0)))))] sz) := by
  refine Met.ofW (cc := cX10_hangSolids) (maxL := 3) (ret := none) (by decide) rfl ?_
  intro p e s m args below meth c s₁ B hml hv
  obtain ⟨rfl, hsz, hP, hK, hD0, hN0⟩ := hv
  have hx := B.exec
  have hb := B.bytes
  have hr := B.returns
  have hts := atoms_spec (ws := wsX10_hangSolids) B.pre
  have hown : s.vm.findClass RX10 = some m.cls := findClass_of_methodNamed B.named
  have hlocks := B.notSynchronized
  have hiX10 : ∀ w ∈ u_ws RX10 TX10 13, w ∈ wsX10_hangSolids := by decide +kernel
  subst hsz
  have hD := hD0.self (sz := s.heap.size)
  generalize hAe : va_A [(x0, .inr (10, [.ref xTape, .ref xReader, .ref xBag, .ref xBld, .ref xAng, .ref xSum, .ref xPik, .int 0, .ref xHan, .ref xIns, .ref xShr, .ref xSta, .ref xTur])), (xSum, .inr (8, [.ref sM, .ref sP, .ref sA, .int 0])), (xHan, .inr (3, [.int 0, .int 0, .int 0, .ref hH, .ref hR, .ref hT, .ref hM])), (hH, .inl (cI, 7, (.inl fh))), (hT, .inl (cJ, 7, (.inr (.inl ft)))), (hM, .inl (cJ, 6, (.inr (.inl (fun _ => 0)))))] s.heap.size = A at hD ⊢
  have hA : ∀ q : Nat, s.heap.size ≤ q → A q := fun q h => by rw [← hAe]; exact Or.inr h
  have hS : va_S A s.heap s.heap [] := va_S.rf
  have hP : va_P (dC, dI) vwCl [(x0, .inr (10, [.ref xTape, .ref xReader, .ref xBag, .ref xBld, .ref xAng, .ref xSum, .ref xPik, .int 0, .ref xHan, .ref xIns, .ref xShr, .ref xSta, .ref xTur])), (xSum, .inr (8, [.ref sM, .ref sP, .ref sA, .int 0])), (xHan, .inr (3, [.int 0, .int 0, .int 0, .ref hH, .ref hR, .ref hT, .ref hM])), (hH, .inl (cI, 7, (.inl fh))), (hT, .inl (cJ, 7, (.inr (.inl ft)))), (hM, .inl (cJ, 6, (.inr (.inl (fun _ => 0)))))] s.heap := hP
  have hl := lv_entry ([.ref x0, .int 4]) (n := 3) (Nat.le_of_ble_eq_true rfl)
  rw [lg_entry_eq]
  generalize (lg_sl ([.ref x0, .int 4]) ++ List.replicate (3 - (lg_sl ([.ref x0, .int 4])).length) Slot.unset).toArray = ls at hl ⊢
  have hl : lv_has ls 3 [(0, .ref x0), (1, .int 4)] := hl
  refine lv_aload_n hx hb dX10_hangSolids_0 rfl (lv_at hl 0 rfl) ?_
  refine va_get (D := (dC, dI)) (ci := 10) (v := .ref xHan) (C := RX10) (T := TX10) (N := 13) hx hb hts hiX10 hown hK hP 0 rfl rfl 8 (by decide) (hts (.fieldLink RX10 61 "ScissorsTable" "hang" "LScissorsTable$Hang;") (by decide +kernel)) (fun _ h9 => h9) rfl dX10_hangSolids_1 ?_
  have hPc := hP.sub (ws' := [(xHan, .inr (3, [.int 0, .int 0, .int 0, .ref hH, .ref hR, .ref hT, .ref hM]))]) [2] rfl
  have hDc := hD.sub (ws' := [(xHan, .inr (3, [.int 0, .int 0, .int 0, .ref hH, .ref hR, .ref hT, .ref hM]))]) [2] (by decide) rfl
  have hFc := va_free (wc := [(xHan, .inr (3, [.int 0, .int 0, .int 0, .ref hH, .ref hR, .ref hT, .ref hM]))]) hD hS hA [2] rfl
  refine va_callv (va_runV (As := []) (rest := []) ⟨hx, hb, hml, hown, hts⟩ (c_X3_begin l dC dI cB cI cJ s.heap.size xHan hH hR hT hM) (cwV 0 hts gX10_hangSolids_X3_begin rfl rfl rfl (by decide +kernel) ⟨Nat.le_of_ble_eq_true rfl, Nat.le_of_ble_eq_true rfl⟩) ⟨fun a U g mk q => by obtain ⟨q0, q1, qP, qK, qD⟩ := q; exact ⟨q0, q1, qP, va_K.moved (u := U) (U := U.calling g mk a) (Vm.Alike.refl U.vm) qK, qD⟩, va_recv hK hP (ci := 3) (q0 := 2) rfl rfl, fun U hU hW => ⟨rfl, by rw [hU], by rw [hU]; exact hPc, va_K.moved hW.alike hK, hDc.weaken (fun _ _ _ _ => trivial)⟩⟩ rfl rfl hl.1 rfl (lv_room (Nat.le_of_ble_eq_true rfl)) dX10_hangSolids_4 ⟨Nat.le_of_ble_eq_true rfl, Nat.le_of_ble_eq_true rfl⟩) hS (fun q _ h => hFc q h) hFc (fun u t H1 locs ht hvm hw hB hz1 hk1 hS => ?_)
  obtain ⟨hP1, hK1, hD1⟩ := hB
  rw [ht] at hP1
  obtain ⟨hP, hD⟩ := va_join (wr := [(x0, .inr (10, [.ref xTape, .ref xReader, .ref xBag, .ref xBld, .ref xAng, .ref xSum, .ref xPik, .int 0, .ref xHan, .ref xIns, .ref xShr, .ref xSta, .ref xTur])), (xSum, .inr (8, [.ref sM, .ref sP, .ref sA, .int 0])), (hH, .inl (cI, 7, (.inl fh))), (hT, .inl (cJ, 7, (.inr (.inl ft)))), (hM, .inl (cJ, 6, (.inr (.inl (fun _ => 0)))))]) (w1 := [(xHan, .inr (3, [.int 0, .int 0, .int 0, .ref hH, .ref hR, .ref hT, .ref hM]))]) hP hD [2] [0, 1, 3, 4, 5] rfl rfl (by decide) (by decide) hk1 hFc hP1 hD1
  generalize H1 = H at hP hS ⊢
  have hP : va_P (dC, dI) vwCl [(x0, .inr (10, [.ref xTape, .ref xReader, .ref xBag, .ref xBld, .ref xAng, .ref xSum, .ref xPik, .int 0, .ref xHan, .ref xIns, .ref xShr, .ref xSta, .ref xTur])), (xSum, .inr (8, [.ref sM, .ref sP, .ref sA, .int 0])), (hH, .inl (cI, 7, (.inl fh))), (hT, .inl (cJ, 7, (.inr (.inl ft)))), (hM, .inl (cJ, 6, (.inr (.inl (fun _ => 0))))), (xHan, .inr (3, [.int 0, .int 0, .int 0, .ref hH, .ref hR, .ref hT, .ref hM]))] H := hP
  have hD : va_D A [(x0, .inr (10, [.ref xTape, .ref xReader, .ref xBag, .ref xBld, .ref xAng, .ref xSum, .ref xPik, .int 0, .ref xHan, .ref xIns, .ref xShr, .ref xSta, .ref xTur])), (xSum, .inr (8, [.ref sM, .ref sP, .ref sA, .int 0])), (hH, .inl (cI, 7, (.inl fh))), (hT, .inl (cJ, 7, (.inr (.inl ft)))), (hM, .inl (cJ, 6, (.inr (.inl (fun _ => 0))))), (xHan, .inr (3, [.int 0, .int 0, .int 0, .ref hH, .ref hR, .ref hT, .ref hM]))] := hD
  refine lv_iconst (v := 0) hx hb dX10_hangSolids_7 (by decide) ?_
  refine lv_istore_n (lv' := [(2, .int 0), (0, .ref x0), (1, .int 4)]) hx hb dX10_hangSolids_8 rfl hl (by decide) rfl (fun ls hl => ?_)
  refine lv_iload_n hx hb dX10_hangSolids_9 rfl (lv_at hl 0 rfl) ?_
  refine lv_iconst (v := 4) hx hb dX10_hangSolids_10 (by decide) ?_
  refine lv_icmp_ge (tgt := 41) hx hb dX10_hangSolids_11 (by decide) (fun c => absurd c (by decide)) (fun _ => ?_)
  refine lv_iload_n hx hb dX10_hangSolids_14 rfl (lv_at hl 2 rfl) ?_
  refine lv_iload_n hx hb dX10_hangSolids_15 rfl (lv_at hl 0 rfl) ?_
  refine lv_ishr hx hb dX10_hangSolids_16 ?_
  refine lv_topi (fun x_1 ex_1 => ?_)
  obtain rfl : x_1 = 4 := ex_1.trans (by first | rfl | decide)
  refine lv_iconst (v := 1) hx hb dX10_hangSolids_17 (by decide) ?_
  refine lv_iand hx hb dX10_hangSolids_18 ?_
  refine lv_topi (fun x_2 ex_2 => ?_)
  obtain rfl : x_2 = 0 := ex_2.trans (by first | rfl | decide)
  refine lv_iconst (v := 1) hx hb dX10_hangSolids_19 (by decide) ?_
  refine lv_icmp_ne (tgt := 35) hx hb dX10_hangSolids_20 (by decide) (fun _ => ?_) (fun c => absurd c (by decide))
  refine lv_iinc (v := 1) (lv' := [(2, .int 1), (0, .ref x0), (1, .int 4)]) hx hb dX10_hangSolids_35 hl (k := 0) rfl (by decide) (by decide) rfl (fun ls hl => ?_)
  refine lv_goto (tgt := 9) hx hb dX10_hangSolids_38 (by decide) ?_
  refine lv_iload_n hx hb dX10_hangSolids_9 rfl (lv_at hl 0 rfl) ?_
  refine lv_iconst (v := 4) hx hb dX10_hangSolids_10 (by decide) ?_
  refine lv_icmp_ge (tgt := 41) hx hb dX10_hangSolids_11 (by decide) (fun c => absurd c (by decide)) (fun _ => ?_)
  refine lv_iload_n hx hb dX10_hangSolids_14 rfl (lv_at hl 2 rfl) ?_
  refine lv_iload_n hx hb dX10_hangSolids_15 rfl (lv_at hl 0 rfl) ?_
  refine lv_ishr hx hb dX10_hangSolids_16 ?_
  refine lv_topi (fun x_3 ex_3 => ?_)
  obtain rfl : x_3 = 2 := ex_3.trans (by first | rfl | decide)
  refine lv_iconst (v := 1) hx hb dX10_hangSolids_17 (by decide) ?_
  refine lv_iand hx hb dX10_hangSolids_18 ?_
  refine lv_topi (fun x_4 ex_4 => ?_)
  obtain rfl : x_4 = 0 := ex_4.trans (by first | rfl | decide)
  refine lv_iconst (v := 1) hx hb dX10_hangSolids_19 (by decide) ?_
  refine lv_icmp_ne (tgt := 35) hx hb dX10_hangSolids_20 (by decide) (fun _ => ?_) (fun c => absurd c (by decide))
  refine lv_iinc (v := 2) (lv' := [(2, .int 2), (0, .ref x0), (1, .int 4)]) hx hb dX10_hangSolids_35 hl (k := 0) rfl (by decide) (by decide) rfl (fun ls hl => ?_)
  refine lv_goto (tgt := 9) hx hb dX10_hangSolids_38 (by decide) ?_
  refine lv_iload_n hx hb dX10_hangSolids_9 rfl (lv_at hl 0 rfl) ?_
  refine lv_iconst (v := 4) hx hb dX10_hangSolids_10 (by decide) ?_
  refine lv_icmp_ge (tgt := 41) hx hb dX10_hangSolids_11 (by decide) (fun c => absurd c (by decide)) (fun _ => ?_)
  refine lv_iload_n hx hb dX10_hangSolids_14 rfl (lv_at hl 2 rfl) ?_
  refine lv_iload_n hx hb dX10_hangSolids_15 rfl (lv_at hl 0 rfl) ?_
  refine lv_ishr hx hb dX10_hangSolids_16 ?_
  refine lv_topi (fun x_5 ex_5 => ?_)
  obtain rfl : x_5 = 1 := ex_5.trans (by first | rfl | decide)
  refine lv_iconst (v := 1) hx hb dX10_hangSolids_17 (by decide) ?_
  refine lv_iand hx hb dX10_hangSolids_18 ?_
  refine lv_topi (fun x_6 ex_6 => ?_)
  obtain rfl : x_6 = 1 := ex_6.trans (by first | rfl | decide)
  refine lv_iconst (v := 1) hx hb dX10_hangSolids_19 (by decide) ?_
  refine lv_icmp_ne (tgt := 35) hx hb dX10_hangSolids_20 (by decide) (fun c => absurd (by decide) c) (fun _ => ?_)
  refine lv_aload_n hx hb dX10_hangSolids_23 rfl (lv_at hl 1 rfl) ?_
  refine va_get (D := (dC, dI)) (ci := 10) (v := .ref xHan) (C := RX10) (T := TX10) (N := 13) hx hb hts hiX10 hown hK hP 0 rfl rfl 8 (by decide) (hts (.fieldLink RX10 61 "ScissorsTable" "hang" "LScissorsTable$Hang;") (by decide +kernel)) (fun _ h9 => h9) rfl dX10_hangSolids_24 ?_
  refine lv_aload_n hx hb dX10_hangSolids_27 rfl (lv_at hl 1 rfl) ?_
  refine va_get (D := (dC, dI)) (ci := 10) (v := .ref xSum) (C := RX10) (T := TX10) (N := 13) hx hb hts hiX10 hown hK hP 0 rfl rfl 5 (by decide) (hts (.fieldLink RX10 51 "ScissorsTable" "sums" "LScissorsTable$Sums;") (by decide +kernel)) (fun _ h9 => h9) rfl dX10_hangSolids_28 ?_
  refine lv_iload_n hx hb dX10_hangSolids_31 rfl (lv_at hl 0 rfl) ?_
  have hPc := hP.sub (ws' := [(xSum, .inr (8, [.ref sM, .ref sP, .ref sA, .int 0])), (xHan, .inr (3, [.int 0, .int 0, .int 0, .ref hH, .ref hR, .ref hT, .ref hM])), (hH, .inl (cI, 7, (.inl fh))), (hT, .inl (cJ, 7, (.inr (.inl ft)))), (hM, .inl (cJ, 6, (.inr (.inl (fun _ => 0)))))]) [1, 5, 2, 3, 4] rfl
  have hDc := hD.sub (ws' := [(xSum, .inr (8, [.ref sM, .ref sP, .ref sA, .int 0])), (xHan, .inr (3, [.int 0, .int 0, .int 0, .ref hH, .ref hR, .ref hT, .ref hM])), (hH, .inl (cI, 7, (.inl fh))), (hT, .inl (cJ, 7, (.inr (.inl ft)))), (hM, .inl (cJ, 6, (.inr (.inl (fun _ => 0)))))]) [1, 5, 2, 3, 4] (by decide) rfl
  have hFc := va_free (wc := [(xSum, .inr (8, [.ref sM, .ref sP, .ref sA, .int 0])), (xHan, .inr (3, [.int 0, .int 0, .int 0, .ref hH, .ref hR, .ref hT, .ref hM])), (hH, .inl (cI, 7, (.inl fh))), (hT, .inl (cJ, 7, (.inr (.inl ft)))), (hM, .inl (cJ, 6, (.inr (.inl (fun _ => 0)))))]) hD hS hA [1, 5, 2, 3, 4] rfl
  refine va_callv (va_runV (As := [.ref xSum, .int 2]) (rest := []) ⟨hx, hb, hml, hown, hts⟩ (c_X3_next_t0 l dC dI cB cI cJ H.size xSum sM sP sA xHan hH hR hT hM 2 fh ft) (cwV 2 hts gX10_hangSolids_X3_next rfl rfl rfl (by decide +kernel) ⟨Nat.le_of_ble_eq_true rfl, Nat.le_of_ble_eq_true rfl⟩) ⟨fun a U g mk q => by obtain ⟨q0, q1, qP, qK, qD, qN0⟩ := q; exact ⟨q0, q1, qP, va_K.moved (u := U) (U := U.calling g mk a) (Vm.Alike.refl U.vm) qK, qD, va_Nw.same rfl rfl qN0⟩, va_recv hK hP (ci := 3) (q0 := 5) rfl rfl, fun U hU hW => ⟨rfl, by rw [hU], by rw [hU]; exact hPc, va_K.moved hW.alike hK, hDc.weaken (fun _ _ _ _ => trivial), va_Nw.warmM hW hN0⟩⟩ rfl rfl hl.1 rfl (lv_room (Nat.le_of_ble_eq_true rfl)) dX10_hangSolids_32 ⟨Nat.le_of_ble_eq_true rfl, Nat.le_of_ble_eq_true rfl⟩) hS (fun q _ h => hFc q h) hFc (fun u t H1 locs ht hvm hw hB hz1 hk1 hS => ?_)
  obtain ⟨hP1, hK1, hD1⟩ := hB
  rw [ht] at hP1
  obtain ⟨hP, hD⟩ := va_join (wr := [(x0, .inr (10, [.ref xTape, .ref xReader, .ref xBag, .ref xBld, .ref xAng, .ref xSum, .ref xPik, .int 0, .ref xHan, .ref xIns, .ref xShr, .ref xSta, .ref xTur]))]) (w1 := [(xHan, .inr (3, [.int 0, .int 1, .int 1, .ref hH, .ref hR, .ref hT, .ref hM])), (xSum, .inr (8, [.ref sM, .ref sP, .ref sA, .int 0])), (hH, .inl (cI, 7, (.inl (upd fh (0 : Int32).toNatClampNeg 2)))), (hT, .inl (cJ, 7, (.inr (.inl (vp_updL ft (0 : Int32).toNatClampNeg 1))))), (hM, .inl (cJ, 6, (.inr (.inl (vp_updL (fun _ => 0) (0 : Int32).toNatClampNeg 1)))))]) hP hD [1, 5, 2, 3, 4] [0] rfl rfl (by decide) (by decide) hk1 hFc hP1 hD1
  generalize H1 = H at hP hS ⊢
  have hP : va_P (dC, dI) vwCl [(x0, .inr (10, [.ref xTape, .ref xReader, .ref xBag, .ref xBld, .ref xAng, .ref xSum, .ref xPik, .int 0, .ref xHan, .ref xIns, .ref xShr, .ref xSta, .ref xTur])), (xHan, .inr (3, [.int 0, .int 1, .int 1, .ref hH, .ref hR, .ref hT, .ref hM])), (xSum, .inr (8, [.ref sM, .ref sP, .ref sA, .int 0])), (hH, .inl (cI, 7, (.inl (upd fh (0 : Int32).toNatClampNeg 2)))), (hT, .inl (cJ, 7, (.inr (.inl (vp_updL ft (0 : Int32).toNatClampNeg 1))))), (hM, .inl (cJ, 6, (.inr (.inl (vp_updL (fun _ => 0) (0 : Int32).toNatClampNeg 1)))))] H := hP
  have hD : va_D A [(x0, .inr (10, [.ref xTape, .ref xReader, .ref xBag, .ref xBld, .ref xAng, .ref xSum, .ref xPik, .int 0, .ref xHan, .ref xIns, .ref xShr, .ref xSta, .ref xTur])), (xHan, .inr (3, [.int 0, .int 1, .int 1, .ref hH, .ref hR, .ref hT, .ref hM])), (xSum, .inr (8, [.ref sM, .ref sP, .ref sA, .int 0])), (hH, .inl (cI, 7, (.inl (upd fh (0 : Int32).toNatClampNeg 2)))), (hT, .inl (cJ, 7, (.inr (.inl (vp_updL ft (0 : Int32).toNatClampNeg 1))))), (hM, .inl (cJ, 6, (.inr (.inl (vp_updL (fun _ => 0) (0 : Int32).toNatClampNeg 1)))))] := hD
  refine lv_iinc (v := 3) (lv' := [(2, .int 3), (0, .ref x0), (1, .int 4)]) hx hb dX10_hangSolids_35 hl (k := 0) rfl (by decide) (by decide) rfl (fun ls hl => ?_)
  refine lv_goto (tgt := 9) hx hb dX10_hangSolids_38 (by decide) ?_
  refine lv_iload_n hx hb dX10_hangSolids_9 rfl (lv_at hl 0 rfl) ?_
  refine lv_iconst (v := 4) hx hb dX10_hangSolids_10 (by decide) ?_
  refine lv_icmp_ge (tgt := 41) hx hb dX10_hangSolids_11 (by decide) (fun c => absurd c (by decide)) (fun _ => ?_)
  refine lv_iload_n hx hb dX10_hangSolids_14 rfl (lv_at hl 2 rfl) ?_
  refine lv_iload_n hx hb dX10_hangSolids_15 rfl (lv_at hl 0 rfl) ?_
  refine lv_ishr hx hb dX10_hangSolids_16 ?_
  refine lv_topi (fun x_7 ex_7 => ?_)
  obtain rfl : x_7 = 0 := ex_7.trans (by first | rfl | decide)
  refine lv_iconst (v := 1) hx hb dX10_hangSolids_17 (by decide) ?_
  refine lv_iand hx hb dX10_hangSolids_18 ?_
  refine lv_topi (fun x_8 ex_8 => ?_)
  obtain rfl : x_8 = 0 := ex_8.trans (by first | rfl | decide)
  refine lv_iconst (v := 1) hx hb dX10_hangSolids_19 (by decide) ?_
  refine lv_icmp_ne (tgt := 35) hx hb dX10_hangSolids_20 (by decide) (fun _ => ?_) (fun c => absurd c (by decide))
  refine lv_iinc (v := 4) (lv' := [(2, .int 4), (0, .ref x0), (1, .int 4)]) hx hb dX10_hangSolids_35 hl (k := 0) rfl (by decide) (by decide) rfl (fun ls hl => ?_)
  refine lv_goto (tgt := 9) hx hb dX10_hangSolids_38 (by decide) ?_
  refine lv_iload_n hx hb dX10_hangSolids_9 rfl (lv_at hl 0 rfl) ?_
  refine lv_iconst (v := 4) hx hb dX10_hangSolids_10 (by decide) ?_
  refine lv_icmp_ge (tgt := 41) hx hb dX10_hangSolids_11 (by decide) (fun _ => ?_) (fun c => absurd (by decide) c)
  have hP9 := hP.sub (ws' := [(x0, .inr (10, [.ref xTape, .ref xReader, .ref xBag, .ref xBld, .ref xAng, .ref xSum, .ref xPik, .int 0, .ref xHan, .ref xIns, .ref xShr, .ref xSta, .ref xTur])), (xHan, .inr (3, [.int 0, .int 1, .int 1, .ref hH, .ref hR, .ref hT, .ref hM])), (xSum, .inr (8, [.ref sM, .ref sP, .ref sA, .int 0])), (hH, .inl (cI, 7, (.inl (upd fh (0 : Int32).toNatClampNeg 2)))), (hT, .inl (cJ, 7, (.inr (.inl (vp_updL ft (0 : Int32).toNatClampNeg 1))))), (hM, .inl (cJ, 6, (.inr (.inl (vp_updL (fun _ => 0) (0 : Int32).toNatClampNeg 1)))))]) [0, 1, 2, 3, 4, 5] rfl
  have hD9 := hD.sub (ws' := [(x0, .inr (10, [.ref xTape, .ref xReader, .ref xBag, .ref xBld, .ref xAng, .ref xSum, .ref xPik, .int 0, .ref xHan, .ref xIns, .ref xShr, .ref xSta, .ref xTur])), (xHan, .inr (3, [.int 0, .int 1, .int 1, .ref hH, .ref hR, .ref hT, .ref hM])), (xSum, .inr (8, [.ref sM, .ref sP, .ref sA, .int 0])), (hH, .inl (cI, 7, (.inl (upd fh (0 : Int32).toNatClampNeg 2)))), (hT, .inl (cJ, 7, (.inr (.inl (vp_updL ft (0 : Int32).toNatClampNeg 1))))), (hM, .inl (cJ, 6, (.inr (.inl (vp_updL (fun _ => 0) (0 : Int32).toNatClampNeg 1)))))]) [0, 1, 2, 3, 4, 5] (by decide) rfl
  refine W.widen (k := 0) (n := 0) (Nat.le_of_ble_eq_true rfl) (Nat.le_of_ble_eq_true rfl) ?_
  exact W.vret hx hb hr (fun t ht hW => ⟨⟨(), rfl, trivial, by rw [ht]; exact hP9, va_K.moved hW.alike hK, hD9⟩, hS.F ht⟩) hS.2.2 dX10_hangSolids_41
set_option maxHeartbeats 4000000 in
set_option maxRecDepth 100000 in
theorem c_X10_hangSolids_5 (l : Launch) (dC : Nat → ClassId) (dI : Nat → Nat → Nat) (cB cI cJ : ClassId) (sz : Nat) (x0 xTape xReader xBag xBld xAng xSum xPik xHan xIns xShr xSta xTur sM sP sA hH hR hT hM : Nat) (fh : Nat → Int32) (ft : Nat → Int64) : Met l yX10_hangSolids wsX10_hangSolids ({ frames := 5, cells := 0, slots := 0, locals := 118 }) (va_Pc [.ref x0, .int 5] (fun U => U.heap.size = sz ∧ va_P (dC, dI) vwCl [(x0, .inr (10, [.ref xTape, .ref xReader, .ref xBag, .ref xBld, .ref xAng, .ref xSum, .ref xPik, .int 0, .ref xHan, .ref xIns, .ref xShr, .ref xSta, .ref xTur])), (xSum, .inr (8, [.ref sM, .ref sP, .ref sA, .int 0])), (xHan, .inr (3, [.int 0, .int 0, .int 0, .ref hH, .ref hR, .ref hT, .ref hM])), (hH, .inl (cI, 7, (.inl fh))), (hT, .inl (cJ, 7, (.inr (.inl ft)))), (hM, .inl (cJ, 6, (.inr (.inl (fun _ => 0)))))] U.heap ∧ va_K (dC, dI) vwCl [(cB, .byte), (cI, .int), (cJ, .long)] U ∧ va_D (fun _ => True) [(x0, .inr (10, [.ref xTape, .ref xReader, .ref xBag, .ref xBld, .ref xAng, .ref xSum, .ref xPik, .int 0, .ref xHan, .ref xIns, .ref xShr, .ref xSta, .ref xTur])), (xSum, .inr (8, [.ref sM, .ref sP, .ref sA, .int 0])), (xHan, .inr (3, [.int 0, .int 0, .int 0, .ref hH, .ref hR, .ref hT, .ref hM])), (hH, .inl (cI, 7, (.inl fh))), (hT, .inl (cJ, 7, (.inr (.inl ft)))), (hM, .inl (cJ, 6, (.inr (.inl (fun _ => 0)))))] ∧ va_Nw (.methodLinkNest RX3 62 yX10_gcd "ScissorsTable") U)) (va_Qv (fun _ : Unit => True) (fun _ t => va_P (dC, dI) vwCl [(x0, .inr (10, [.ref xTape, .ref xReader, .ref xBag, .ref xBld, .ref xAng, .ref xSum, .ref xPik, .int 0, .ref xHan, .ref xIns, .ref xShr, .ref xSta, .ref xTur])), (xHan, .inr (3, [.int 0, .int 2, .int 1, .ref hH, .ref hR, .ref hT, .ref hM])), (xSum, .inr (8, [.ref sM, .ref sP, .ref sA, .int 0])), (hH, .inl (cI, 7, (.inl (upd (upd fh (0 : Int32).toNatClampNeg 0) (0 : Int32).toNatClampNeg 2)))), (hT, .inl (cJ, 7, (.inr (.inl (vp_updL (vp_updL ft (0 : Int32).toNatClampNeg 1) (0 : Int32).toNatClampNeg 1))))), (hM, .inl (cJ, 6, (.inr (.inl (vp_updL (fun _ => 0) (0 : Int32).toNatClampNeg 1)))))] t.heap ∧ va_K (dC, dI) vwCl [(cB, .byte), (cI, .int), (cJ, .long)] t ∧ va_D (va_A [(x0, .inr (10, [.ref xTape, .ref xReader, .ref xBag, .ref xBld, .ref xAng, .ref xSum, .ref xPik, .int 0, .ref xHan, .ref xIns, .ref xShr, .ref xSta, .ref xTur])), (xSum, .inr (8, [.ref sM, .ref sP, .ref sA, .int 0])), (xHan, .inr (3, [.int 0, .int 0, .int 0, .ref hH, .ref hR, .ref hT, .ref hM])), (hH, .inl (cI, 7, (.inl fh))), (hT, .inl (cJ, 7, (.inr (.inl ft)))), (hM, .inl (cJ, 6, (.inr (.inl (fun _ => 0)))))] sz) [(x0, .inr (10, [.ref xTape, .ref xReader, .ref xBag, .ref xBld, .ref xAng, .ref xSum, .ref xPik, .int 0, .ref xHan, .ref xIns, .ref xShr, .ref xSta, .ref xTur])), (xHan, .inr (3, [.int 0, .int 2, .int 1, .ref hH, .ref hR, .ref hT, .ref hM])), (xSum, .inr (8, [.ref sM, .ref sP, .ref sA, .int 0])), (hH, .inl (cI, 7, (.inl (upd (upd fh (0 : Int32).toNatClampNeg 0) (0 : Int32).toNatClampNeg 2)))), (hT, .inl (cJ, 7, (.inr (.inl (vp_updL (vp_updL ft (0 : Int32).toNatClampNeg 1) (0 : Int32).toNatClampNeg 1))))), (hM, .inl (cJ, 6, (.inr (.inl (vp_updL (fun _ => 0) (0 : Int32).toNatClampNeg 1)))))]) (va_A [(x0, .inr (10, [.ref xTape, .ref xReader, .ref xBag, .ref xBld, .ref xAng, .ref xSum, .ref xPik, .int 0, .ref xHan, .ref xIns, .ref xShr, .ref xSta, .ref xTur])), (xSum, .inr (8, [.ref sM, .ref sP, .ref sA, .int 0])), (xHan, .inr (3, [.int 0, .int 0, .int 0, .ref hH, .ref hR, .ref hT, .ref hM])), (hH, .inl (cI, 7, (.inl fh))), (hT, .inl (cJ, 7, (.inr (.inl ft)))), (hM, .inl (cJ, 6, (.inr (.inl (fun _ => 0)))))] sz)) 0 0 (va_A [(x0, .inr (10, [.ref xTape, .ref xReader, .ref xBag, .ref xBld, .ref xAng, .ref xSum, .ref xPik, .int 0, .ref xHan, .ref xIns, .ref xShr, .ref xSta, .ref xTur])), (xSum, .inr (8, [.ref sM, .ref sP, .ref sA, .int 0])), (xHan, .inr (3, [.int 0, .int 0, .int 0, .ref hH, .ref hR, .ref hT, .ref hM])), (hH, .inl (cI, 7, (.inl fh))), (hT, .inl (cJ, 7, (.inr (.inl ft)))), (hM, .inl (cJ, 6, (.inr (.inl (fun _ => 0)))))] sz) := by
  refine Met.ofW (cc := cX10_hangSolids) (maxL := 3) (ret := none) (by decide) rfl ?_
  intro p e s m args below meth c s₁ B hml hv
  obtain ⟨rfl, hsz, hP, hK, hD0, hN0⟩ := hv
  have hx := B.exec
  have hb := B.bytes
  have hr := B.returns
  have hts := atoms_spec (ws := wsX10_hangSolids) B.pre
  have hown : s.vm.findClass RX10 = some m.cls := findClass_of_methodNamed B.named
  have hlocks := B.notSynchronized
  have hiX10 : ∀ w ∈ u_ws RX10 TX10 13, w ∈ wsX10_hangSolids := by decide +kernel
  subst hsz
  have hD := hD0.self (sz := s.heap.size)
  generalize hAe : va_A [(x0, .inr (10, [.ref xTape, .ref xReader, .ref xBag, .ref xBld, .ref xAng, .ref xSum, .ref xPik, .int 0, .ref xHan, .ref xIns, .ref xShr, .ref xSta, .ref xTur])), (xSum, .inr (8, [.ref sM, .ref sP, .ref sA, .int 0])), (xHan, .inr (3, [.int 0, .int 0, .int 0, .ref hH, .ref hR, .ref hT, .ref hM])), (hH, .inl (cI, 7, (.inl fh))), (hT, .inl (cJ, 7, (.inr (.inl ft)))), (hM, .inl (cJ, 6, (.inr (.inl (fun _ => 0)))))] s.heap.size = A at hD ⊢
  have hA : ∀ q : Nat, s.heap.size ≤ q → A q := fun q h => by rw [← hAe]; exact Or.inr h
  have hS : va_S A s.heap s.heap [] := va_S.rf
  have hP : va_P (dC, dI) vwCl [(x0, .inr (10, [.ref xTape, .ref xReader, .ref xBag, .ref xBld, .ref xAng, .ref xSum, .ref xPik, .int 0, .ref xHan, .ref xIns, .ref xShr, .ref xSta, .ref xTur])), (xSum, .inr (8, [.ref sM, .ref sP, .ref sA, .int 0])), (xHan, .inr (3, [.int 0, .int 0, .int 0, .ref hH, .ref hR, .ref hT, .ref hM])), (hH, .inl (cI, 7, (.inl fh))), (hT, .inl (cJ, 7, (.inr (.inl ft)))), (hM, .inl (cJ, 6, (.inr (.inl (fun _ => 0)))))] s.heap := hP
  have hl := lv_entry ([.ref x0, .int 5]) (n := 3) (Nat.le_of_ble_eq_true rfl)
  rw [lg_entry_eq]
  generalize (lg_sl ([.ref x0, .int 5]) ++ List.replicate (3 - (lg_sl ([.ref x0, .int 5])).length) Slot.unset).toArray = ls at hl ⊢
  have hl : lv_has ls 3 [(0, .ref x0), (1, .int 5)] := hl
  refine lv_aload_n hx hb dX10_hangSolids_0 rfl (lv_at hl 0 rfl) ?_
  refine va_get (D := (dC, dI)) (ci := 10) (v := .ref xHan) (C := RX10) (T := TX10) (N := 13) hx hb hts hiX10 hown hK hP 0 rfl rfl 8 (by decide) (hts (.fieldLink RX10 61 "ScissorsTable" "hang" "LScissorsTable$Hang;") (by decide +kernel)) (fun _ h9 => h9) rfl dX10_hangSolids_1 ?_
  have hPc := hP.sub (ws' := [(xHan, .inr (3, [.int 0, .int 0, .int 0, .ref hH, .ref hR, .ref hT, .ref hM]))]) [2] rfl
  have hDc := hD.sub (ws' := [(xHan, .inr (3, [.int 0, .int 0, .int 0, .ref hH, .ref hR, .ref hT, .ref hM]))]) [2] (by decide) rfl
  have hFc := va_free (wc := [(xHan, .inr (3, [.int 0, .int 0, .int 0, .ref hH, .ref hR, .ref hT, .ref hM]))]) hD hS hA [2] rfl
  refine va_callv (va_runV (As := []) (rest := []) ⟨hx, hb, hml, hown, hts⟩ (c_X3_begin l dC dI cB cI cJ s.heap.size xHan hH hR hT hM) (cwV 0 hts gX10_hangSolids_X3_begin rfl rfl rfl (by decide +kernel) ⟨Nat.le_of_ble_eq_true rfl, Nat.le_of_ble_eq_true rfl⟩) ⟨fun a U g mk q => by obtain ⟨q0, q1, qP, qK, qD⟩ := q; exact ⟨q0, q1, qP, va_K.moved (u := U) (U := U.calling g mk a) (Vm.Alike.refl U.vm) qK, qD⟩, va_recv hK hP (ci := 3) (q0 := 2) rfl rfl, fun U hU hW => ⟨rfl, by rw [hU], by rw [hU]; exact hPc, va_K.moved hW.alike hK, hDc.weaken (fun _ _ _ _ => trivial)⟩⟩ rfl rfl hl.1 rfl (lv_room (Nat.le_of_ble_eq_true rfl)) dX10_hangSolids_4 ⟨Nat.le_of_ble_eq_true rfl, Nat.le_of_ble_eq_true rfl⟩) hS (fun q _ h => hFc q h) hFc (fun u t H1 locs ht hvm hw hB hz1 hk1 hS => ?_)
  obtain ⟨hP1, hK1, hD1⟩ := hB
  rw [ht] at hP1
  obtain ⟨hP, hD⟩ := va_join (wr := [(x0, .inr (10, [.ref xTape, .ref xReader, .ref xBag, .ref xBld, .ref xAng, .ref xSum, .ref xPik, .int 0, .ref xHan, .ref xIns, .ref xShr, .ref xSta, .ref xTur])), (xSum, .inr (8, [.ref sM, .ref sP, .ref sA, .int 0])), (hH, .inl (cI, 7, (.inl fh))), (hT, .inl (cJ, 7, (.inr (.inl ft)))), (hM, .inl (cJ, 6, (.inr (.inl (fun _ => 0)))))]) (w1 := [(xHan, .inr (3, [.int 0, .int 0, .int 0, .ref hH, .ref hR, .ref hT, .ref hM]))]) hP hD [2] [0, 1, 3, 4, 5] rfl rfl (by decide) (by decide) hk1 hFc hP1 hD1
  generalize H1 = H at hP hS ⊢
  have hP : va_P (dC, dI) vwCl [(x0, .inr (10, [.ref xTape, .ref xReader, .ref xBag, .ref xBld, .ref xAng, .ref xSum, .ref xPik, .int 0, .ref xHan, .ref xIns, .ref xShr, .ref xSta, .ref xTur])), (xSum, .inr (8, [.ref sM, .ref sP, .ref sA, .int 0])), (hH, .inl (cI, 7, (.inl fh))), (hT, .inl (cJ, 7, (.inr (.inl ft)))), (hM, .inl (cJ, 6, (.inr (.inl (fun _ => 0))))), (xHan, .inr (3, [.int 0, .int 0, .int 0, .ref hH, .ref hR, .ref hT, .ref hM]))] H := hP
  have hD : va_D A [(x0, .inr (10, [.ref xTape, .ref xReader, .ref xBag, .ref xBld, .ref xAng, .ref xSum, .ref xPik, .int 0, .ref xHan, .ref xIns, .ref xShr, .ref xSta, .ref xTur])), (xSum, .inr (8, [.ref sM, .ref sP, .ref sA, .int 0])), (hH, .inl (cI, 7, (.inl fh))), (hT, .inl (cJ, 7, (.inr (.inl ft)))), (hM, .inl (cJ, 6, (.inr (.inl (fun _ => 0))))), (xHan, .inr (3, [.int 0, .int 0, .int 0, .ref hH, .ref hR, .ref hT, .ref hM]))] := hD
  refine lv_iconst (v := 0) hx hb dX10_hangSolids_7 (by decide) ?_
  refine lv_istore_n (lv' := [(2, .int 0), (0, .ref x0), (1, .int 5)]) hx hb dX10_hangSolids_8 rfl hl (by decide) rfl (fun ls hl => ?_)
  refine lv_iload_n hx hb dX10_hangSolids_9 rfl (lv_at hl 0 rfl) ?_
  refine lv_iconst (v := 4) hx hb dX10_hangSolids_10 (by decide) ?_
  refine lv_icmp_ge (tgt := 41) hx hb dX10_hangSolids_11 (by decide) (fun c => absurd c (by decide)) (fun _ => ?_)
  refine lv_iload_n hx hb dX10_hangSolids_14 rfl (lv_at hl 2 rfl) ?_
  refine lv_iload_n hx hb dX10_hangSolids_15 rfl (lv_at hl 0 rfl) ?_
  refine lv_ishr hx hb dX10_hangSolids_16 ?_
  refine lv_topi (fun x_1 ex_1 => ?_)
  obtain rfl : x_1 = 5 := ex_1.trans (by first | rfl | decide)
  refine lv_iconst (v := 1) hx hb dX10_hangSolids_17 (by decide) ?_
  refine lv_iand hx hb dX10_hangSolids_18 ?_
  refine lv_topi (fun x_2 ex_2 => ?_)
  obtain rfl : x_2 = 1 := ex_2.trans (by first | rfl | decide)
  refine lv_iconst (v := 1) hx hb dX10_hangSolids_19 (by decide) ?_
  refine lv_icmp_ne (tgt := 35) hx hb dX10_hangSolids_20 (by decide) (fun c => absurd (by decide) c) (fun _ => ?_)
  refine lv_aload_n hx hb dX10_hangSolids_23 rfl (lv_at hl 1 rfl) ?_
  refine va_get (D := (dC, dI)) (ci := 10) (v := .ref xHan) (C := RX10) (T := TX10) (N := 13) hx hb hts hiX10 hown hK hP 0 rfl rfl 8 (by decide) (hts (.fieldLink RX10 61 "ScissorsTable" "hang" "LScissorsTable$Hang;") (by decide +kernel)) (fun _ h9 => h9) rfl dX10_hangSolids_24 ?_
  refine lv_aload_n hx hb dX10_hangSolids_27 rfl (lv_at hl 1 rfl) ?_
  refine va_get (D := (dC, dI)) (ci := 10) (v := .ref xSum) (C := RX10) (T := TX10) (N := 13) hx hb hts hiX10 hown hK hP 0 rfl rfl 5 (by decide) (hts (.fieldLink RX10 51 "ScissorsTable" "sums" "LScissorsTable$Sums;") (by decide +kernel)) (fun _ h9 => h9) rfl dX10_hangSolids_28 ?_
  refine lv_iload_n hx hb dX10_hangSolids_31 rfl (lv_at hl 0 rfl) ?_
  have hPc := hP.sub (ws' := [(xSum, .inr (8, [.ref sM, .ref sP, .ref sA, .int 0])), (xHan, .inr (3, [.int 0, .int 0, .int 0, .ref hH, .ref hR, .ref hT, .ref hM])), (hH, .inl (cI, 7, (.inl fh))), (hT, .inl (cJ, 7, (.inr (.inl ft)))), (hM, .inl (cJ, 6, (.inr (.inl (fun _ => 0)))))]) [1, 5, 2, 3, 4] rfl
  have hDc := hD.sub (ws' := [(xSum, .inr (8, [.ref sM, .ref sP, .ref sA, .int 0])), (xHan, .inr (3, [.int 0, .int 0, .int 0, .ref hH, .ref hR, .ref hT, .ref hM])), (hH, .inl (cI, 7, (.inl fh))), (hT, .inl (cJ, 7, (.inr (.inl ft)))), (hM, .inl (cJ, 6, (.inr (.inl (fun _ => 0)))))]) [1, 5, 2, 3, 4] (by decide) rfl
  have hFc := va_free (wc := [(xSum, .inr (8, [.ref sM, .ref sP, .ref sA, .int 0])), (xHan, .inr (3, [.int 0, .int 0, .int 0, .ref hH, .ref hR, .ref hT, .ref hM])), (hH, .inl (cI, 7, (.inl fh))), (hT, .inl (cJ, 7, (.inr (.inl ft)))), (hM, .inl (cJ, 6, (.inr (.inl (fun _ => 0)))))]) hD hS hA [1, 5, 2, 3, 4] rfl
  refine va_callv (va_runV (As := [.ref xSum, .int 0]) (rest := []) ⟨hx, hb, hml, hown, hts⟩ (c_X3_next_t0 l dC dI cB cI cJ H.size xSum sM sP sA xHan hH hR hT hM 0 fh ft) (cwV 2 hts gX10_hangSolids_X3_next rfl rfl rfl (by decide +kernel) ⟨Nat.le_of_ble_eq_true rfl, Nat.le_of_ble_eq_true rfl⟩) ⟨fun a U g mk q => by obtain ⟨q0, q1, qP, qK, qD, qN0⟩ := q; exact ⟨q0, q1, qP, va_K.moved (u := U) (U := U.calling g mk a) (Vm.Alike.refl U.vm) qK, qD, va_Nw.same rfl rfl qN0⟩, va_recv hK hP (ci := 3) (q0 := 5) rfl rfl, fun U hU hW => ⟨rfl, by rw [hU], by rw [hU]; exact hPc, va_K.moved hW.alike hK, hDc.weaken (fun _ _ _ _ => trivial), va_Nw.warmM hW hN0⟩⟩ rfl rfl hl.1 rfl (lv_room (Nat.le_of_ble_eq_true rfl)) dX10_hangSolids_32 ⟨Nat.le_of_ble_eq_true rfl, Nat.le_of_ble_eq_true rfl⟩) hS (fun q _ h => hFc q h) hFc (fun u t H1 locs ht hvm hw hB hz1 hk1 hS => ?_)
  obtain ⟨hP1, hK1, hD1⟩ := hB
  rw [ht] at hP1
  obtain ⟨hP, hD⟩ := va_join (wr := [(x0, .inr (10, [.ref xTape, .ref xReader, .ref xBag, .ref xBld, .ref xAng, .ref xSum, .ref xPik, .int 0, .ref xHan, .ref xIns, .ref xShr, .ref xSta, .ref xTur]))]) (w1 := [(xHan, .inr (3, [.int 0, .int 1, .int 1, .ref hH, .ref hR, .ref hT, .ref hM])), (xSum, .inr (8, [.ref sM, .ref sP, .ref sA, .int 0])), (hH, .inl (cI, 7, (.inl (upd fh (0 : Int32).toNatClampNeg 0)))), (hT, .inl (cJ, 7, (.inr (.inl (vp_updL ft (0 : Int32).toNatClampNeg 1))))), (hM, .inl (cJ, 6, (.inr (.inl (vp_updL (fun _ => 0) (0 : Int32).toNatClampNeg 1)))))]) hP hD [1, 5, 2, 3, 4] [0] rfl rfl (by decide) (by decide) hk1 hFc hP1 hD1
  generalize H1 = H at hP hS ⊢
  have hP : va_P (dC, dI) vwCl [(x0, .inr (10, [.ref xTape, .ref xReader, .ref xBag, .ref xBld, .ref xAng, .ref xSum, .ref xPik, .int 0, .ref xHan, .ref xIns, .ref xShr, .ref xSta, .ref xTur])), (xHan, .inr (3, [.int 0, .int 1, .int 1, .ref hH, .ref hR, .ref hT, .ref hM])), (xSum, .inr (8, [.ref sM, .ref sP, .ref sA, .int 0])), (hH, .inl (cI, 7, (.inl (upd fh (0 : Int32).toNatClampNeg 0)))), (hT, .inl (cJ, 7, (.inr (.inl (vp_updL ft (0 : Int32).toNatClampNeg 1))))), (hM, .inl (cJ, 6, (.inr (.inl (vp_updL (fun _ => 0) (0 : Int32).toNatClampNeg 1)))))] H := hP
  have hD : va_D A [(x0, .inr (10, [.ref xTape, .ref xReader, .ref xBag, .ref xBld, .ref xAng, .ref xSum, .ref xPik, .int 0, .ref xHan, .ref xIns, .ref xShr, .ref xSta, .ref xTur])), (xHan, .inr (3, [.int 0, .int 1, .int 1, .ref hH, .ref hR, .ref hT, .ref hM])), (xSum, .inr (8, [.ref sM, .ref sP, .ref sA, .int 0])), (hH, .inl (cI, 7, (.inl (upd fh (0 : Int32).toNatClampNeg 0)))), (hT, .inl (cJ, 7, (.inr (.inl (vp_updL ft (0 : Int32).toNatClampNeg 1))))), (hM, .inl (cJ, 6, (.inr (.inl (vp_updL (fun _ => 0) (0 : Int32).toNatClampNeg 1)))))] := hD
  refine lv_iinc (v := 1) (lv' := [(2, .int 1), (0, .ref x0), (1, .int 5)]) hx hb dX10_hangSolids_35 hl (k := 0) rfl (by decide) (by decide) rfl (fun ls hl => ?_)
  refine lv_goto (tgt := 9) hx hb dX10_hangSolids_38 (by decide) ?_
  refine lv_iload_n hx hb dX10_hangSolids_9 rfl (lv_at hl 0 rfl) ?_
  refine lv_iconst (v := 4) hx hb dX10_hangSolids_10 (by decide) ?_
  refine lv_icmp_ge (tgt := 41) hx hb dX10_hangSolids_11 (by decide) (fun c => absurd c (by decide)) (fun _ => ?_)
  refine lv_iload_n hx hb dX10_hangSolids_14 rfl (lv_at hl 2 rfl) ?_
  refine lv_iload_n hx hb dX10_hangSolids_15 rfl (lv_at hl 0 rfl) ?_
  refine lv_ishr hx hb dX10_hangSolids_16 ?_
  refine lv_topi (fun x_3 ex_3 => ?_)
  obtain rfl : x_3 = 2 := ex_3.trans (by first | rfl | decide)
  refine lv_iconst (v := 1) hx hb dX10_hangSolids_17 (by decide) ?_
  refine lv_iand hx hb dX10_hangSolids_18 ?_
  refine lv_topi (fun x_4 ex_4 => ?_)
  obtain rfl : x_4 = 0 := ex_4.trans (by first | rfl | decide)
  refine lv_iconst (v := 1) hx hb dX10_hangSolids_19 (by decide) ?_
  refine lv_icmp_ne (tgt := 35) hx hb dX10_hangSolids_20 (by decide) (fun _ => ?_) (fun c => absurd c (by decide))
  refine lv_iinc (v := 2) (lv' := [(2, .int 2), (0, .ref x0), (1, .int 5)]) hx hb dX10_hangSolids_35 hl (k := 0) rfl (by decide) (by decide) rfl (fun ls hl => ?_)
  refine lv_goto (tgt := 9) hx hb dX10_hangSolids_38 (by decide) ?_
  refine lv_iload_n hx hb dX10_hangSolids_9 rfl (lv_at hl 0 rfl) ?_
  refine lv_iconst (v := 4) hx hb dX10_hangSolids_10 (by decide) ?_
  refine lv_icmp_ge (tgt := 41) hx hb dX10_hangSolids_11 (by decide) (fun c => absurd c (by decide)) (fun _ => ?_)
  refine lv_iload_n hx hb dX10_hangSolids_14 rfl (lv_at hl 2 rfl) ?_
  refine lv_iload_n hx hb dX10_hangSolids_15 rfl (lv_at hl 0 rfl) ?_
  refine lv_ishr hx hb dX10_hangSolids_16 ?_
  refine lv_topi (fun x_5 ex_5 => ?_)
  obtain rfl : x_5 = 1 := ex_5.trans (by first | rfl | decide)
  refine lv_iconst (v := 1) hx hb dX10_hangSolids_17 (by decide) ?_
  refine lv_iand hx hb dX10_hangSolids_18 ?_
  refine lv_topi (fun x_6 ex_6 => ?_)
  obtain rfl : x_6 = 1 := ex_6.trans (by first | rfl | decide)
  refine lv_iconst (v := 1) hx hb dX10_hangSolids_19 (by decide) ?_
  refine lv_icmp_ne (tgt := 35) hx hb dX10_hangSolids_20 (by decide) (fun c => absurd (by decide) c) (fun _ => ?_)
  refine lv_aload_n hx hb dX10_hangSolids_23 rfl (lv_at hl 1 rfl) ?_
  refine va_get (D := (dC, dI)) (ci := 10) (v := .ref xHan) (C := RX10) (T := TX10) (N := 13) hx hb hts hiX10 hown hK hP 0 rfl rfl 8 (by decide) (hts (.fieldLink RX10 61 "ScissorsTable" "hang" "LScissorsTable$Hang;") (by decide +kernel)) (fun _ h9 => h9) rfl dX10_hangSolids_24 ?_
  refine lv_aload_n hx hb dX10_hangSolids_27 rfl (lv_at hl 1 rfl) ?_
  refine va_get (D := (dC, dI)) (ci := 10) (v := .ref xSum) (C := RX10) (T := TX10) (N := 13) hx hb hts hiX10 hown hK hP 0 rfl rfl 5 (by decide) (hts (.fieldLink RX10 51 "ScissorsTable" "sums" "LScissorsTable$Sums;") (by decide +kernel)) (fun _ h9 => h9) rfl dX10_hangSolids_28 ?_
  refine lv_iload_n hx hb dX10_hangSolids_31 rfl (lv_at hl 0 rfl) ?_
  have hPc := hP.sub (ws' := [(xSum, .inr (8, [.ref sM, .ref sP, .ref sA, .int 0])), (xHan, .inr (3, [.int 0, .int 1, .int 1, .ref hH, .ref hR, .ref hT, .ref hM])), (hH, .inl (cI, 7, (.inl (upd fh (0 : Int32).toNatClampNeg 0)))), (hT, .inl (cJ, 7, (.inr (.inl (vp_updL ft (0 : Int32).toNatClampNeg 1)))))]) [2, 1, 3, 4] rfl
  have hDc := hD.sub (ws' := [(xSum, .inr (8, [.ref sM, .ref sP, .ref sA, .int 0])), (xHan, .inr (3, [.int 0, .int 1, .int 1, .ref hH, .ref hR, .ref hT, .ref hM])), (hH, .inl (cI, 7, (.inl (upd fh (0 : Int32).toNatClampNeg 0)))), (hT, .inl (cJ, 7, (.inr (.inl (vp_updL ft (0 : Int32).toNatClampNeg 1)))))]) [2, 1, 3, 4] (by decide) rfl
  have hFc := va_free (wc := [(xSum, .inr (8, [.ref sM, .ref sP, .ref sA, .int 0])), (xHan, .inr (3, [.int 0, .int 1, .int 1, .ref hH, .ref hR, .ref hT, .ref hM])), (hH, .inl (cI, 7, (.inl (upd fh (0 : Int32).toNatClampNeg 0)))), (hT, .inl (cJ, 7, (.inr (.inl (vp_updL ft (0 : Int32).toNatClampNeg 1)))))]) hD hS hA [2, 1, 3, 4] rfl
  refine va_callv (va_runV (As := [.ref xSum, .int 2]) (rest := []) ⟨hx, hb, hml, hown, hts⟩ (c_X3_next_t1 l dC dI cB cI cJ H.size xSum sM sP sA xHan hH hR hT hM 2 (upd fh (0 : Int32).toNatClampNeg 0) (vp_updL ft (0 : Int32).toNatClampNeg 1)) (cwV 2 hts gX10_hangSolids_X3_next rfl rfl rfl (by decide +kernel) ⟨Nat.le_of_ble_eq_true rfl, Nat.le_of_ble_eq_true rfl⟩) ⟨fun a U g mk q => by obtain ⟨q0, q1, qP, qK, qD⟩ := q; exact ⟨q0, q1, qP, va_K.moved (u := U) (U := U.calling g mk a) (Vm.Alike.refl U.vm) qK, qD⟩, va_recv hK hP (ci := 3) (q0 := 1) rfl rfl, fun U hU hW => ⟨rfl, by rw [hU], by rw [hU]; exact hPc, va_K.moved hW.alike hK, hDc.weaken (fun _ _ _ _ => trivial)⟩⟩ rfl rfl hl.1 rfl (lv_room (Nat.le_of_ble_eq_true rfl)) dX10_hangSolids_32 ⟨Nat.le_of_ble_eq_true rfl, Nat.le_of_ble_eq_true rfl⟩) hS (fun q _ h => hFc q h) hFc (fun u t H1 locs ht hvm hw hB hz1 hk1 hS => ?_)
  obtain ⟨hP1, hK1, hD1⟩ := hB
  rw [ht] at hP1
  obtain ⟨hP, hD⟩ := va_join (wr := [(x0, .inr (10, [.ref xTape, .ref xReader, .ref xBag, .ref xBld, .ref xAng, .ref xSum, .ref xPik, .int 0, .ref xHan, .ref xIns, .ref xShr, .ref xSta, .ref xTur])), (hM, .inl (cJ, 6, (.inr (.inl (vp_updL (fun _ => 0) (0 : Int32).toNatClampNeg 1)))))]) (w1 := [(xHan, .inr (3, [.int 0, .int 2, .int 1, .ref hH, .ref hR, .ref hT, .ref hM])), (xSum, .inr (8, [.ref sM, .ref sP, .ref sA, .int 0])), (hH, .inl (cI, 7, (.inl (upd (upd fh (0 : Int32).toNatClampNeg 0) (0 : Int32).toNatClampNeg 2)))), (hT, .inl (cJ, 7, (.inr (.inl (vp_updL (vp_updL ft (0 : Int32).toNatClampNeg 1) (0 : Int32).toNatClampNeg 1)))))]) hP hD [2, 1, 3, 4] [0, 5] rfl rfl (by decide) (by decide) hk1 hFc hP1 hD1
  generalize H1 = H at hP hS ⊢
  have hP : va_P (dC, dI) vwCl [(x0, .inr (10, [.ref xTape, .ref xReader, .ref xBag, .ref xBld, .ref xAng, .ref xSum, .ref xPik, .int 0, .ref xHan, .ref xIns, .ref xShr, .ref xSta, .ref xTur])), (hM, .inl (cJ, 6, (.inr (.inl (vp_updL (fun _ => 0) (0 : Int32).toNatClampNeg 1))))), (xHan, .inr (3, [.int 0, .int 2, .int 1, .ref hH, .ref hR, .ref hT, .ref hM])), (xSum, .inr (8, [.ref sM, .ref sP, .ref sA, .int 0])), (hH, .inl (cI, 7, (.inl (upd (upd fh (0 : Int32).toNatClampNeg 0) (0 : Int32).toNatClampNeg 2)))), (hT, .inl (cJ, 7, (.inr (.inl (vp_updL (vp_updL ft (0 : Int32).toNatClampNeg 1) (0 : Int32).toNatClampNeg 1)))))] H := hP
  have hD : va_D A [(x0, .inr (10, [.ref xTape, .ref xReader, .ref xBag, .ref xBld, .ref xAng, .ref xSum, .ref xPik, .int 0, .ref xHan, .ref xIns, .ref xShr, .ref xSta, .ref xTur])), (hM, .inl (cJ, 6, (.inr (.inl (vp_updL (fun _ => 0) (0 : Int32).toNatClampNeg 1))))), (xHan, .inr (3, [.int 0, .int 2, .int 1, .ref hH, .ref hR, .ref hT, .ref hM])), (xSum, .inr (8, [.ref sM, .ref sP, .ref sA, .int 0])), (hH, .inl (cI, 7, (.inl (upd (upd fh (0 : Int32).toNatClampNeg 0) (0 : Int32).toNatClampNeg 2)))), (hT, .inl (cJ, 7, (.inr (.inl (vp_updL (vp_updL ft (0 : Int32).toNatClampNeg 1) (0 : Int32).toNatClampNeg 1)))))] := hD
  refine lv_iinc (v := 3) (lv' := [(2, .int 3), (0, .ref x0), (1, .int 5)]) hx hb dX10_hangSolids_35 hl (k := 0) rfl (by decide) (by decide) rfl (fun ls hl => ?_)
  refine lv_goto (tgt := 9) hx hb dX10_hangSolids_38 (by decide) ?_
  refine lv_iload_n hx hb dX10_hangSolids_9 rfl (lv_at hl 0 rfl) ?_
  refine lv_iconst (v := 4) hx hb dX10_hangSolids_10 (by decide) ?_
  refine lv_icmp_ge (tgt := 41) hx hb dX10_hangSolids_11 (by decide) (fun c => absurd c (by decide)) (fun _ => ?_)
  refine lv_iload_n hx hb dX10_hangSolids_14 rfl (lv_at hl 2 rfl) ?_
  refine lv_iload_n hx hb dX10_hangSolids_15 rfl (lv_at hl 0 rfl) ?_
  refine lv_ishr hx hb dX10_hangSolids_16 ?_
  refine lv_topi (fun x_7 ex_7 => ?_)
  obtain rfl : x_7 = 0 := ex_7.trans (by first | rfl | decide)
  refine lv_iconst (v := 1) hx hb dX10_hangSolids_17 (by decide) ?_
  refine lv_iand hx hb dX10_hangSolids_18 ?_
  refine lv_topi (fun x_8 ex_8 => ?_)
  obtain rfl : x_8 = 0 := ex_8.trans (by first | rfl | decide)
  refine lv_iconst (v := 1) hx hb dX10_hangSolids_19 (by decide) ?_
  refine lv_icmp_ne (tgt := 35) hx hb dX10_hangSolids_20 (by decide) (fun _ => ?_) (fun c => absurd c (by decide))
  refine lv_iinc (v := 4) (lv' := [(2, .int 4), (0, .ref x0), (1, .int 5)]) hx hb dX10_hangSolids_35 hl (k := 0) rfl (by decide) (by decide) rfl (fun ls hl => ?_)
  refine lv_goto (tgt := 9) hx hb dX10_hangSolids_38 (by decide) ?_
  refine lv_iload_n hx hb dX10_hangSolids_9 rfl (lv_at hl 0 rfl) ?_
  refine lv_iconst (v := 4) hx hb dX10_hangSolids_10 (by decide) ?_
  refine lv_icmp_ge (tgt := 41) hx hb dX10_hangSolids_11 (by decide) (fun _ => ?_) (fun c => absurd (by decide) c)
  have hP9 := hP.sub (ws' := [(x0, .inr (10, [.ref xTape, .ref xReader, .ref xBag, .ref xBld, .ref xAng, .ref xSum, .ref xPik, .int 0, .ref xHan, .ref xIns, .ref xShr, .ref xSta, .ref xTur])), (xHan, .inr (3, [.int 0, .int 2, .int 1, .ref hH, .ref hR, .ref hT, .ref hM])), (xSum, .inr (8, [.ref sM, .ref sP, .ref sA, .int 0])), (hH, .inl (cI, 7, (.inl (upd (upd fh (0 : Int32).toNatClampNeg 0) (0 : Int32).toNatClampNeg 2)))), (hT, .inl (cJ, 7, (.inr (.inl (vp_updL (vp_updL ft (0 : Int32).toNatClampNeg 1) (0 : Int32).toNatClampNeg 1))))), (hM, .inl (cJ, 6, (.inr (.inl (vp_updL (fun _ => 0) (0 : Int32).toNatClampNeg 1)))))]) [0, 2, 3, 4, 5, 1] rfl
  have hD9 := hD.sub (ws' := [(x0, .inr (10, [.ref xTape, .ref xReader, .ref xBag, .ref xBld, .ref xAng, .ref xSum, .ref xPik, .int 0, .ref xHan, .ref xIns, .ref xShr, .ref xSta, .ref xTur])), (xHan, .inr (3, [.int 0, .int 2, .int 1, .ref hH, .ref hR, .ref hT, .ref hM])), (xSum, .inr (8, [.ref sM, .ref sP, .ref sA, .int 0])), (hH, .inl (cI, 7, (.inl (upd (upd fh (0 : Int32).toNatClampNeg 0) (0 : Int32).toNatClampNeg 2)))), (hT, .inl (cJ, 7, (.inr (.inl (vp_updL (vp_updL ft (0 : Int32).toNatClampNeg 1) (0 : Int32).toNatClampNeg 1))))), (hM, .inl (cJ, 6, (.inr (.inl (vp_updL (fun _ => 0) (0 : Int32).toNatClampNeg 1)))))]) [0, 2, 3, 4, 5, 1] (by decide) rfl
  refine W.widen (k := 0) (n := 0) (Nat.le_of_ble_eq_true rfl) (Nat.le_of_ble_eq_true rfl) ?_
  exact W.vret hx hb hr (fun t ht hW => ⟨⟨(), rfl, trivial, by rw [ht]; exact hP9, va_K.moved hW.alike hK, hD9⟩, hS.F ht⟩) hS.2.2 dX10_hangSolids_41
set_option maxHeartbeats 4000000 in
set_option maxRecDepth 100000 in
theorem c_X10_hangSolids_6 (l : Launch) (dC : Nat → ClassId) (dI : Nat → Nat → Nat) (cB cI cJ : ClassId) (sz : Nat) (x0 xTape xReader xBag xBld xAng xSum xPik xHan xIns xShr xSta xTur sM sP sA hH hR hT hM : Nat) (fh : Nat → Int32) (ft : Nat → Int64) : Met l yX10_hangSolids wsX10_hangSolids ({ frames := 5, cells := 0, slots := 0, locals := 118 }) (va_Pc [.ref x0, .int 6] (fun U => U.heap.size = sz ∧ va_P (dC, dI) vwCl [(x0, .inr (10, [.ref xTape, .ref xReader, .ref xBag, .ref xBld, .ref xAng, .ref xSum, .ref xPik, .int 0, .ref xHan, .ref xIns, .ref xShr, .ref xSta, .ref xTur])), (xSum, .inr (8, [.ref sM, .ref sP, .ref sA, .int 0])), (xHan, .inr (3, [.int 0, .int 0, .int 0, .ref hH, .ref hR, .ref hT, .ref hM])), (hH, .inl (cI, 7, (.inl fh))), (hT, .inl (cJ, 7, (.inr (.inl ft)))), (hM, .inl (cJ, 6, (.inr (.inl (fun _ => 0)))))] U.heap ∧ va_K (dC, dI) vwCl [(cB, .byte), (cI, .int), (cJ, .long)] U ∧ va_D (fun _ => True) [(x0, .inr (10, [.ref xTape, .ref xReader, .ref xBag, .ref xBld, .ref xAng, .ref xSum, .ref xPik, .int 0, .ref xHan, .ref xIns, .ref xShr, .ref xSta, .ref xTur])), (xSum, .inr (8, [.ref sM, .ref sP, .ref sA, .int 0])), (xHan, .inr (3, [.int 0, .int 0, .int 0, .ref hH, .ref hR, .ref hT, .ref hM])), (hH, .inl (cI, 7, (.inl fh))), (hT, .inl (cJ, 7, (.inr (.inl ft)))), (hM, .inl (cJ, 6, (.inr (.inl (fun _ => 0)))))] ∧ va_Nw (.methodLinkNest RX3 62 yX10_gcd "ScissorsTable") U)) (va_Qv (fun _ : Unit => True) (fun _ t => va_P (dC, dI) vwCl [(x0, .inr (10, [.ref xTape, .ref xReader, .ref xBag, .ref xBld, .ref xAng, .ref xSum, .ref xPik, .int 0, .ref xHan, .ref xIns, .ref xShr, .ref xSta, .ref xTur])), (xHan, .inr (3, [.int 0, .int 2, .int 1, .ref hH, .ref hR, .ref hT, .ref hM])), (xSum, .inr (8, [.ref sM, .ref sP, .ref sA, .int 0])), (hH, .inl (cI, 7, (.inl (upd (upd fh (0 : Int32).toNatClampNeg 1) (0 : Int32).toNatClampNeg 2)))), (hT, .inl (cJ, 7, (.inr (.inl (vp_updL (vp_updL ft (0 : Int32).toNatClampNeg 1) (0 : Int32).toNatClampNeg 1))))), (hM, .inl (cJ, 6, (.inr (.inl (vp_updL (fun _ => 0) (0 : Int32).toNatClampNeg 1)))))] t.heap ∧ va_K (dC, dI) vwCl [(cB, .byte), (cI, .int), (cJ, .long)] t ∧ va_D (va_A [(x0, .inr (10, [.ref xTape, .ref xReader, .ref xBag, .ref xBld, .ref xAng, .ref xSum, .ref xPik, .int 0, .ref xHan, .ref xIns, .ref xShr, .ref xSta, .ref xTur])), (xSum, .inr (8, [.ref sM, .ref sP, .ref sA, .int 0])), (xHan, .inr (3, [.int 0, .int 0, .int 0, .ref hH, .ref hR, .ref hT, .ref hM])), (hH, .inl (cI, 7, (.inl fh))), (hT, .inl (cJ, 7, (.inr (.inl ft)))), (hM, .inl (cJ, 6, (.inr (.inl (fun _ => 0)))))] sz) [(x0, .inr (10, [.ref xTape, .ref xReader, .ref xBag, .ref xBld, .ref xAng, .ref xSum, .ref xPik, .int 0, .ref xHan, .ref xIns, .ref xShr, .ref xSta, .ref xTur])), (xHan, .inr (3, [.int 0, .int 2, .int 1, .ref hH, .ref hR, .ref hT, .ref hM])), (xSum, .inr (8, [.ref sM, .ref sP, .ref sA, .int 0])), (hH, .inl (cI, 7, (.inl (upd (upd fh (0 : Int32).toNatClampNeg 1) (0 : Int32).toNatClampNeg 2)))), (hT, .inl (cJ, 7, (.inr (.inl (vp_updL (vp_updL ft (0 : Int32).toNatClampNeg 1) (0 : Int32).toNatClampNeg 1))))), (hM, .inl (cJ, 6, (.inr (.inl (vp_updL (fun _ => 0) (0 : Int32).toNatClampNeg 1)))))]) (va_A [(x0, .inr (10, [.ref xTape, .ref xReader, .ref xBag, .ref xBld, .ref xAng, .ref xSum, .ref xPik, .int 0, .ref xHan, .ref xIns, .ref xShr, .ref xSta, .ref xTur])), (xSum, .inr (8, [.ref sM, .ref sP, .ref sA, .int 0])), (xHan, .inr (3, [.int 0, .int 0, .int 0, .ref hH, .ref hR, .ref hT, .ref hM])), (hH, .inl (cI, 7, (.inl fh))), (hT, .inl (cJ, 7, (.inr (.inl ft)))), (hM, .inl (cJ, 6, (.inr (.inl (fun _ => 0)))))] sz)) 0 0 (va_A [(x0, .inr (10, [.ref xTape, .ref xReader, .ref xBag, .ref xBld, .ref xAng, .ref xSum, .ref xPik, .int 0, .ref xHan, .ref xIns, .ref xShr, .ref xSta, .ref xTur])), (xSum, .inr (8, [.ref sM, .ref sP, .ref sA, .int 0])), (xHan, .inr (3, [.int 0, .int 0, .int 0, .ref hH, .ref hR, .ref hT, .ref hM])), (hH, .inl (cI, 7, (.inl fh))), (hT, .inl (cJ, 7, (.inr (.inl ft)))), (hM, .inl (cJ, 6, (.inr (.inl (fun _ => 0)))))] sz) := by
  refine Met.ofW (cc := cX10_hangSolids) (maxL := 3) (ret := none) (by decide) rfl ?_
  intro p e s m args below meth c s₁ B hml hv
  obtain ⟨rfl, hsz, hP, hK, hD0, hN0⟩ := hv
  have hx := B.exec
  have hb := B.bytes
  have hr := B.returns
  have hts := atoms_spec (ws := wsX10_hangSolids) B.pre
  have hown : s.vm.findClass RX10 = some m.cls := findClass_of_methodNamed B.named
  have hlocks := B.notSynchronized
  have hiX10 : ∀ w ∈ u_ws RX10 TX10 13, w ∈ wsX10_hangSolids := by decide +kernel
  subst hsz
  have hD := hD0.self (sz := s.heap.size)
  generalize hAe : va_A [(x0, .inr (10, [.ref xTape, .ref xReader, .ref xBag, .ref xBld, .ref xAng, .ref xSum, .ref xPik, .int 0, .ref xHan, .ref xIns, .ref xShr, .ref xSta, .ref xTur])), (xSum, .inr (8, [.ref sM, .ref sP, .ref sA, .int 0])), (xHan, .inr (3, [.int 0, .int 0, .int 0, .ref hH, .ref hR, .ref hT, .ref hM])), (hH, .inl (cI, 7, (.inl fh))), (hT, .inl (cJ, 7, (.inr (.inl ft)))), (hM, .inl (cJ, 6, (.inr (.inl (fun _ => 0)))))] s.heap.size = A at hD ⊢
  have hA : ∀ q : Nat, s.heap.size ≤ q → A q := fun q h => by rw [← hAe]; exact Or.inr h
  have hS : va_S A s.heap s.heap [] := va_S.rf
  have hP : va_P (dC, dI) vwCl [(x0, .inr (10, [.ref xTape, .ref xReader, .ref xBag, .ref xBld, .ref xAng, .ref xSum, .ref xPik, .int 0, .ref xHan, .ref xIns, .ref xShr, .ref xSta, .ref xTur])), (xSum, .inr (8, [.ref sM, .ref sP, .ref sA, .int 0])), (xHan, .inr (3, [.int 0, .int 0, .int 0, .ref hH, .ref hR, .ref hT, .ref hM])), (hH, .inl (cI, 7, (.inl fh))), (hT, .inl (cJ, 7, (.inr (.inl ft)))), (hM, .inl (cJ, 6, (.inr (.inl (fun _ => 0)))))] s.heap := hP
  have hl := lv_entry ([.ref x0, .int 6]) (n := 3) (Nat.le_of_ble_eq_true rfl)
  rw [lg_entry_eq]
  generalize (lg_sl ([.ref x0, .int 6]) ++ List.replicate (3 - (lg_sl ([.ref x0, .int 6])).length) Slot.unset).toArray = ls at hl ⊢
  have hl : lv_has ls 3 [(0, .ref x0), (1, .int 6)] := hl
  refine lv_aload_n hx hb dX10_hangSolids_0 rfl (lv_at hl 0 rfl) ?_
  refine va_get (D := (dC, dI)) (ci := 10) (v := .ref xHan) (C := RX10) (T := TX10) (N := 13) hx hb hts hiX10 hown hK hP 0 rfl rfl 8 (by decide) (hts (.fieldLink RX10 61 "ScissorsTable" "hang" "LScissorsTable$Hang;") (by decide +kernel)) (fun _ h9 => h9) rfl dX10_hangSolids_1 ?_
  have hPc := hP.sub (ws' := [(xHan, .inr (3, [.int 0, .int 0, .int 0, .ref hH, .ref hR, .ref hT, .ref hM]))]) [2] rfl
  have hDc := hD.sub (ws' := [(xHan, .inr (3, [.int 0, .int 0, .int 0, .ref hH, .ref hR, .ref hT, .ref hM]))]) [2] (by decide) rfl
  have hFc := va_free (wc := [(xHan, .inr (3, [.int 0, .int 0, .int 0, .ref hH, .ref hR, .ref hT, .ref hM]))]) hD hS hA [2] rfl
  refine va_callv (va_runV (As := []) (rest := []) ⟨hx, hb, hml, hown, hts⟩ (c_X3_begin l dC dI cB cI cJ s.heap.size xHan hH hR hT hM) (cwV 0 hts gX10_hangSolids_X3_begin rfl rfl rfl (by decide +kernel) ⟨Nat.le_of_ble_eq_true rfl, Nat.le_of_ble_eq_true rfl⟩) ⟨fun a U g mk q => by obtain ⟨q0, q1, qP, qK, qD⟩ := q; exact ⟨q0, q1, qP, va_K.moved (u := U) (U := U.calling g mk a) (Vm.Alike.refl U.vm) qK, qD⟩, va_recv hK hP (ci := 3) (q0 := 2) rfl rfl, fun U hU hW => ⟨rfl, by rw [hU], by rw [hU]; exact hPc, va_K.moved hW.alike hK, hDc.weaken (fun _ _ _ _ => trivial)⟩⟩ rfl rfl hl.1 rfl (lv_room (Nat.le_of_ble_eq_true rfl)) dX10_hangSolids_4 ⟨Nat.le_of_ble_eq_true rfl, Nat.le_of_ble_eq_true rfl⟩) hS (fun q _ h => hFc q h) hFc (fun u t H1 locs ht hvm hw hB hz1 hk1 hS => ?_)
  obtain ⟨hP1, hK1, hD1⟩ := hB
  rw [ht] at hP1
  obtain ⟨hP, hD⟩ := va_join (wr := [(x0, .inr (10, [.ref xTape, .ref xReader, .ref xBag, .ref xBld, .ref xAng, .ref xSum, .ref xPik, .int 0, .ref xHan, .ref xIns, .ref xShr, .ref xSta, .ref xTur])), (xSum, .inr (8, [.ref sM, .ref sP, .ref sA, .int 0])), (hH, .inl (cI, 7, (.inl fh))), (hT, .inl (cJ, 7, (.inr (.inl ft)))), (hM, .inl (cJ, 6, (.inr (.inl (fun _ => 0)))))]) (w1 := [(xHan, .inr (3, [.int 0, .int 0, .int 0, .ref hH, .ref hR, .ref hT, .ref hM]))]) hP hD [2] [0, 1, 3, 4, 5] rfl rfl (by decide) (by decide) hk1 hFc hP1 hD1
  generalize H1 = H at hP hS ⊢
  have hP : va_P (dC, dI) vwCl [(x0, .inr (10, [.ref xTape, .ref xReader, .ref xBag, .ref xBld, .ref xAng, .ref xSum, .ref xPik, .int 0, .ref xHan, .ref xIns, .ref xShr, .ref xSta, .ref xTur])), (xSum, .inr (8, [.ref sM, .ref sP, .ref sA, .int 0])), (hH, .inl (cI, 7, (.inl fh))), (hT, .inl (cJ, 7, (.inr (.inl ft)))), (hM, .inl (cJ, 6, (.inr (.inl (fun _ => 0))))), (xHan, .inr (3, [.int 0, .int 0, .int 0, .ref hH, .ref hR, .ref hT, .ref hM]))] H := hP
  have hD : va_D A [(x0, .inr (10, [.ref xTape, .ref xReader, .ref xBag, .ref xBld, .ref xAng, .ref xSum, .ref xPik, .int 0, .ref xHan, .ref xIns, .ref xShr, .ref xSta, .ref xTur])), (xSum, .inr (8, [.ref sM, .ref sP, .ref sA, .int 0])), (hH, .inl (cI, 7, (.inl fh))), (hT, .inl (cJ, 7, (.inr (.inl ft)))), (hM, .inl (cJ, 6, (.inr (.inl (fun _ => 0))))), (xHan, .inr (3, [.int 0, .int 0, .int 0, .ref hH, .ref hR, .ref hT, .ref hM]))] := hD
  refine lv_iconst (v := 0) hx hb dX10_hangSolids_7 (by decide) ?_
  refine lv_istore_n (lv' := [(2, .int 0), (0, .ref x0), (1, .int 6)]) hx hb dX10_hangSolids_8 rfl hl (by decide) rfl (fun ls hl => ?_)
  refine lv_iload_n hx hb dX10_hangSolids_9 rfl (lv_at hl 0 rfl) ?_
  refine lv_iconst (v := 4) hx hb dX10_hangSolids_10 (by decide) ?_
  refine lv_icmp_ge (tgt := 41) hx hb dX10_hangSolids_11 (by decide) (fun c => absurd c (by decide)) (fun _ => ?_)
  refine lv_iload_n hx hb dX10_hangSolids_14 rfl (lv_at hl 2 rfl) ?_
  refine lv_iload_n hx hb dX10_hangSolids_15 rfl (lv_at hl 0 rfl) ?_
  refine lv_ishr hx hb dX10_hangSolids_16 ?_
  refine lv_topi (fun x_1 ex_1 => ?_)
  obtain rfl : x_1 = 6 := ex_1.trans (by first | rfl | decide)
  refine lv_iconst (v := 1) hx hb dX10_hangSolids_17 (by decide) ?_
  refine lv_iand hx hb dX10_hangSolids_18 ?_
  refine lv_topi (fun x_2 ex_2 => ?_)
  obtain rfl : x_2 = 0 := ex_2.trans (by first | rfl | decide)
  refine lv_iconst (v := 1) hx hb dX10_hangSolids_19 (by decide) ?_
  refine lv_icmp_ne (tgt := 35) hx hb dX10_hangSolids_20 (by decide) (fun _ => ?_) (fun c => absurd c (by decide))
  refine lv_iinc (v := 1) (lv' := [(2, .int 1), (0, .ref x0), (1, .int 6)]) hx hb dX10_hangSolids_35 hl (k := 0) rfl (by decide) (by decide) rfl (fun ls hl => ?_)
  refine lv_goto (tgt := 9) hx hb dX10_hangSolids_38 (by decide) ?_
  refine lv_iload_n hx hb dX10_hangSolids_9 rfl (lv_at hl 0 rfl) ?_
  refine lv_iconst (v := 4) hx hb dX10_hangSolids_10 (by decide) ?_
  refine lv_icmp_ge (tgt := 41) hx hb dX10_hangSolids_11 (by decide) (fun c => absurd c (by decide)) (fun _ => ?_)
  refine lv_iload_n hx hb dX10_hangSolids_14 rfl (lv_at hl 2 rfl) ?_
  refine lv_iload_n hx hb dX10_hangSolids_15 rfl (lv_at hl 0 rfl) ?_
  refine lv_ishr hx hb dX10_hangSolids_16 ?_
  refine lv_topi (fun x_3 ex_3 => ?_)
  obtain rfl : x_3 = 3 := ex_3.trans (by first | rfl | decide)
  refine lv_iconst (v := 1) hx hb dX10_hangSolids_17 (by decide) ?_
  refine lv_iand hx hb dX10_hangSolids_18 ?_
  refine lv_topi (fun x_4 ex_4 => ?_)
  obtain rfl : x_4 = 1 := ex_4.trans (by first | rfl | decide)
  refine lv_iconst (v := 1) hx hb dX10_hangSolids_19 (by decide) ?_
  refine lv_icmp_ne (tgt := 35) hx hb dX10_hangSolids_20 (by decide) (fun c => absurd (by decide) c) (fun _ => ?_)
  refine lv_aload_n hx hb dX10_hangSolids_23 rfl (lv_at hl 1 rfl) ?_
  refine va_get (D := (dC, dI)) (ci := 10) (v := .ref xHan) (C := RX10) (T := TX10) (N := 13) hx hb hts hiX10 hown hK hP 0 rfl rfl 8 (by decide) (hts (.fieldLink RX10 61 "ScissorsTable" "hang" "LScissorsTable$Hang;") (by decide +kernel)) (fun _ h9 => h9) rfl dX10_hangSolids_24 ?_
  refine lv_aload_n hx hb dX10_hangSolids_27 rfl (lv_at hl 1 rfl) ?_
  refine va_get (D := (dC, dI)) (ci := 10) (v := .ref xSum) (C := RX10) (T := TX10) (N := 13) hx hb hts hiX10 hown hK hP 0 rfl rfl 5 (by decide) (hts (.fieldLink RX10 51 "ScissorsTable" "sums" "LScissorsTable$Sums;") (by decide +kernel)) (fun _ h9 => h9) rfl dX10_hangSolids_28 ?_
  refine lv_iload_n hx hb dX10_hangSolids_31 rfl (lv_at hl 0 rfl) ?_
  have hPc := hP.sub (ws' := [(xSum, .inr (8, [.ref sM, .ref sP, .ref sA, .int 0])), (xHan, .inr (3, [.int 0, .int 0, .int 0, .ref hH, .ref hR, .ref hT, .ref hM])), (hH, .inl (cI, 7, (.inl fh))), (hT, .inl (cJ, 7, (.inr (.inl ft)))), (hM, .inl (cJ, 6, (.inr (.inl (fun _ => 0)))))]) [1, 5, 2, 3, 4] rfl
  have hDc := hD.sub (ws' := [(xSum, .inr (8, [.ref sM, .ref sP, .ref sA, .int 0])), (xHan, .inr (3, [.int 0, .int 0, .int 0, .ref hH, .ref hR, .ref hT, .ref hM])), (hH, .inl (cI, 7, (.inl fh))), (hT, .inl (cJ, 7, (.inr (.inl ft)))), (hM, .inl (cJ, 6, (.inr (.inl (fun _ => 0)))))]) [1, 5, 2, 3, 4] (by decide) rfl
  have hFc := va_free (wc := [(xSum, .inr (8, [.ref sM, .ref sP, .ref sA, .int 0])), (xHan, .inr (3, [.int 0, .int 0, .int 0, .ref hH, .ref hR, .ref hT, .ref hM])), (hH, .inl (cI, 7, (.inl fh))), (hT, .inl (cJ, 7, (.inr (.inl ft)))), (hM, .inl (cJ, 6, (.inr (.inl (fun _ => 0)))))]) hD hS hA [1, 5, 2, 3, 4] rfl
  refine va_callv (va_runV (As := [.ref xSum, .int 1]) (rest := []) ⟨hx, hb, hml, hown, hts⟩ (c_X3_next_t0 l dC dI cB cI cJ H.size xSum sM sP sA xHan hH hR hT hM 1 fh ft) (cwV 2 hts gX10_hangSolids_X3_next rfl rfl rfl (by decide +kernel) ⟨Nat.le_of_ble_eq_true rfl, Nat.le_of_ble_eq_true rfl⟩) ⟨fun a U g mk q => by obtain ⟨q0, q1, qP, qK, qD, qN0⟩ := q; exact ⟨q0, q1, qP, va_K.moved (u := U) (U := U.calling g mk a) (Vm.Alike.refl U.vm) qK, qD, va_Nw.same rfl rfl qN0⟩, va_recv hK hP (ci := 3) (q0 := 5) rfl rfl, fun U hU hW => ⟨rfl, by rw [hU], by rw [hU]; exact hPc, va_K.moved hW.alike hK, hDc.weaken (fun _ _ _ _ => trivial), va_Nw.warmM hW hN0⟩⟩ rfl rfl hl.1 rfl (lv_room (Nat.le_of_ble_eq_true rfl)) dX10_hangSolids_32 ⟨Nat.le_of_ble_eq_true rfl, Nat.le_of_ble_eq_true rfl⟩) hS (fun q _ h => hFc q h) hFc (fun u t H1 locs ht hvm hw hB hz1 hk1 hS => ?_)
  obtain ⟨hP1, hK1, hD1⟩ := hB
  rw [ht] at hP1
  obtain ⟨hP, hD⟩ := va_join (wr := [(x0, .inr (10, [.ref xTape, .ref xReader, .ref xBag, .ref xBld, .ref xAng, .ref xSum, .ref xPik, .int 0, .ref xHan, .ref xIns, .ref xShr, .ref xSta, .ref xTur]))]) (w1 := [(xHan, .inr (3, [.int 0, .int 1, .int 1, .ref hH, .ref hR, .ref hT, .ref hM])), (xSum, .inr (8, [.ref sM, .ref sP, .ref sA, .int 0])), (hH, .inl (cI, 7, (.inl (upd fh (0 : Int32).toNatClampNeg 1)))), (hT, .inl (cJ, 7, (.inr (.inl (vp_updL ft (0 : Int32).toNatClampNeg 1))))), (hM, .inl (cJ, 6, (.inr (.inl (vp_updL (fun _ => 0) (0 : Int32).toNatClampNeg 1)))))]) hP hD [1, 5, 2, 3, 4] [0] rfl rfl (by decide) (by decide) hk1 hFc hP1 hD1
  generalize H1 = H at hP hS ⊢
  have hP : va_P (dC, dI) vwCl [(x0, .inr (10, [.ref xTape, .ref xReader, .ref xBag, .ref xBld, .ref xAng, .ref xSum, .ref xPik, .int 0, .ref xHan, .ref xIns, .ref xShr, .ref xSta, .ref xTur])), (xHan, .inr (3, [.int 0, .int 1, .int 1, .ref hH, .ref hR, .ref hT, .ref hM])), (xSum, .inr (8, [.ref sM, .ref sP, .ref sA, .int 0])), (hH, .inl (cI, 7, (.inl (upd fh (0 : Int32).toNatClampNeg 1)))), (hT, .inl (cJ, 7, (.inr (.inl (vp_updL ft (0 : Int32).toNatClampNeg 1))))), (hM, .inl (cJ, 6, (.inr (.inl (vp_updL (fun _ => 0) (0 : Int32).toNatClampNeg 1)))))] H := hP
  have hD : va_D A [(x0, .inr (10, [.ref xTape, .ref xReader, .ref xBag, .ref xBld, .ref xAng, .ref xSum, .ref xPik, .int 0, .ref xHan, .ref xIns, .ref xShr, .ref xSta, .ref xTur])), (xHan, .inr (3, [.int 0, .int 1, .int 1, .ref hH, .ref hR, .ref hT, .ref hM])), (xSum, .inr (8, [.ref sM, .ref sP, .ref sA, .int 0])), (hH, .inl (cI, 7, (.inl (upd fh (0 : Int32).toNatClampNeg 1)))), (hT, .inl (cJ, 7, (.inr (.inl (vp_updL ft (0 : Int32).toNatClampNeg 1))))), (hM, .inl (cJ, 6, (.inr (.inl (vp_updL (fun _ => 0) (0 : Int32).toNatClampNeg 1)))))] := hD
  refine lv_iinc (v := 2) (lv' := [(2, .int 2), (0, .ref x0), (1, .int 6)]) hx hb dX10_hangSolids_35 hl (k := 0) rfl (by decide) (by decide) rfl (fun ls hl => ?_)
  refine lv_goto (tgt := 9) hx hb dX10_hangSolids_38 (by decide) ?_
  refine lv_iload_n hx hb dX10_hangSolids_9 rfl (lv_at hl 0 rfl) ?_
  refine lv_iconst (v := 4) hx hb dX10_hangSolids_10 (by decide) ?_
  refine lv_icmp_ge (tgt := 41) hx hb dX10_hangSolids_11 (by decide) (fun c => absurd c (by decide)) (fun _ => ?_)
  refine lv_iload_n hx hb dX10_hangSolids_14 rfl (lv_at hl 2 rfl) ?_
  refine lv_iload_n hx hb dX10_hangSolids_15 rfl (lv_at hl 0 rfl) ?_
  refine lv_ishr hx hb dX10_hangSolids_16 ?_
  refine lv_topi (fun x_5 ex_5 => ?_)
  obtain rfl : x_5 = 1 := ex_5.trans (by first | rfl | decide)
  refine lv_iconst (v := 1) hx hb dX10_hangSolids_17 (by decide) ?_
  refine lv_iand hx hb dX10_hangSolids_18 ?_
  refine lv_topi (fun x_6 ex_6 => ?_)
  obtain rfl : x_6 = 1 := ex_6.trans (by first | rfl | decide)
  refine lv_iconst (v := 1) hx hb dX10_hangSolids_19 (by decide) ?_
  refine lv_icmp_ne (tgt := 35) hx hb dX10_hangSolids_20 (by decide) (fun c => absurd (by decide) c) (fun _ => ?_)
  refine lv_aload_n hx hb dX10_hangSolids_23 rfl (lv_at hl 1 rfl) ?_
  refine va_get (D := (dC, dI)) (ci := 10) (v := .ref xHan) (C := RX10) (T := TX10) (N := 13) hx hb hts hiX10 hown hK hP 0 rfl rfl 8 (by decide) (hts (.fieldLink RX10 61 "ScissorsTable" "hang" "LScissorsTable$Hang;") (by decide +kernel)) (fun _ h9 => h9) rfl dX10_hangSolids_24 ?_
  refine lv_aload_n hx hb dX10_hangSolids_27 rfl (lv_at hl 1 rfl) ?_
  refine va_get (D := (dC, dI)) (ci := 10) (v := .ref xSum) (C := RX10) (T := TX10) (N := 13) hx hb hts hiX10 hown hK hP 0 rfl rfl 5 (by decide) (hts (.fieldLink RX10 51 "ScissorsTable" "sums" "LScissorsTable$Sums;") (by decide +kernel)) (fun _ h9 => h9) rfl dX10_hangSolids_28 ?_
  refine lv_iload_n hx hb dX10_hangSolids_31 rfl (lv_at hl 0 rfl) ?_
  have hPc := hP.sub (ws' := [(xSum, .inr (8, [.ref sM, .ref sP, .ref sA, .int 0])), (xHan, .inr (3, [.int 0, .int 1, .int 1, .ref hH, .ref hR, .ref hT, .ref hM])), (hH, .inl (cI, 7, (.inl (upd fh (0 : Int32).toNatClampNeg 1)))), (hT, .inl (cJ, 7, (.inr (.inl (vp_updL ft (0 : Int32).toNatClampNeg 1)))))]) [2, 1, 3, 4] rfl
  have hDc := hD.sub (ws' := [(xSum, .inr (8, [.ref sM, .ref sP, .ref sA, .int 0])), (xHan, .inr (3, [.int 0, .int 1, .int 1, .ref hH, .ref hR, .ref hT, .ref hM])), (hH, .inl (cI, 7, (.inl (upd fh (0 : Int32).toNatClampNeg 1)))), (hT, .inl (cJ, 7, (.inr (.inl (vp_updL ft (0 : Int32).toNatClampNeg 1)))))]) [2, 1, 3, 4] (by decide) rfl
  have hFc := va_free (wc := [(xSum, .inr (8, [.ref sM, .ref sP, .ref sA, .int 0])), (xHan, .inr (3, [.int 0, .int 1, .int 1, .ref hH, .ref hR, .ref hT, .ref hM])), (hH, .inl (cI, 7, (.inl (upd fh (0 : Int32).toNatClampNeg 1)))), (hT, .inl (cJ, 7, (.inr (.inl (vp_updL ft (0 : Int32).toNatClampNeg 1)))))]) hD hS hA [2, 1, 3, 4] rfl
  refine va_callv (va_runV (As := [.ref xSum, .int 2]) (rest := []) ⟨hx, hb, hml, hown, hts⟩ (c_X3_next_t1 l dC dI cB cI cJ H.size xSum sM sP sA xHan hH hR hT hM 2 (upd fh (0 : Int32).toNatClampNeg 1) (vp_updL ft (0 : Int32).toNatClampNeg 1)) (cwV 2 hts gX10_hangSolids_X3_next rfl rfl rfl (by decide +kernel) ⟨Nat.le_of_ble_eq_true rfl, Nat.le_of_ble_eq_true rfl⟩) ⟨fun a U g mk q => by obtain ⟨q0, q1, qP, qK, qD⟩ := q; exact ⟨q0, q1, qP, va_K.moved (u := U) (U := U.calling g mk a) (Vm.Alike.refl U.vm) qK, qD⟩, va_recv hK hP (ci := 3) (q0 := 1) rfl rfl, fun U hU hW => ⟨rfl, by rw [hU], by rw [hU]; exact hPc, va_K.moved hW.alike hK, hDc.weaken (fun _ _ _ _ => trivial)⟩⟩ rfl rfl hl.1 rfl (lv_room (Nat.le_of_ble_eq_true rfl)) dX10_hangSolids_32 ⟨Nat.le_of_ble_eq_true rfl, Nat.le_of_ble_eq_true rfl⟩) hS (fun q _ h => hFc q h) hFc (fun u t H1 locs ht hvm hw hB hz1 hk1 hS => ?_)
  obtain ⟨hP1, hK1, hD1⟩ := hB
  rw [ht] at hP1
  obtain ⟨hP, hD⟩ := va_join (wr := [(x0, .inr (10, [.ref xTape, .ref xReader, .ref xBag, .ref xBld, .ref xAng, .ref xSum, .ref xPik, .int 0, .ref xHan, .ref xIns, .ref xShr, .ref xSta, .ref xTur])), (hM, .inl (cJ, 6, (.inr (.inl (vp_updL (fun _ => 0) (0 : Int32).toNatClampNeg 1)))))]) (w1 := [(xHan, .inr (3, [.int 0, .int 2, .int 1, .ref hH, .ref hR, .ref hT, .ref hM])), (xSum, .inr (8, [.ref sM, .ref sP, .ref sA, .int 0])), (hH, .inl (cI, 7, (.inl (upd (upd fh (0 : Int32).toNatClampNeg 1) (0 : Int32).toNatClampNeg 2)))), (hT, .inl (cJ, 7, (.inr (.inl (vp_updL (vp_updL ft (0 : Int32).toNatClampNeg 1) (0 : Int32).toNatClampNeg 1)))))]) hP hD [2, 1, 3, 4] [0, 5] rfl rfl (by decide) (by decide) hk1 hFc hP1 hD1
  generalize H1 = H at hP hS ⊢
  have hP : va_P (dC, dI) vwCl [(x0, .inr (10, [.ref xTape, .ref xReader, .ref xBag, .ref xBld, .ref xAng, .ref xSum, .ref xPik, .int 0, .ref xHan, .ref xIns, .ref xShr, .ref xSta, .ref xTur])), (hM, .inl (cJ, 6, (.inr (.inl (vp_updL (fun _ => 0) (0 : Int32).toNatClampNeg 1))))), (xHan, .inr (3, [.int 0, .int 2, .int 1, .ref hH, .ref hR, .ref hT, .ref hM])), (xSum, .inr (8, [.ref sM, .ref sP, .ref sA, .int 0])), (hH, .inl (cI, 7, (.inl (upd (upd fh (0 : Int32).toNatClampNeg 1) (0 : Int32).toNatClampNeg 2)))), (hT, .inl (cJ, 7, (.inr (.inl (vp_updL (vp_updL ft (0 : Int32).toNatClampNeg 1) (0 : Int32).toNatClampNeg 1)))))] H := hP
  have hD : va_D A [(x0, .inr (10, [.ref xTape, .ref xReader, .ref xBag, .ref xBld, .ref xAng, .ref xSum, .ref xPik, .int 0, .ref xHan, .ref xIns, .ref xShr, .ref xSta, .ref xTur])), (hM, .inl (cJ, 6, (.inr (.inl (vp_updL (fun _ => 0) (0 : Int32).toNatClampNeg 1))))), (xHan, .inr (3, [.int 0, .int 2, .int 1, .ref hH, .ref hR, .ref hT, .ref hM])), (xSum, .inr (8, [.ref sM, .ref sP, .ref sA, .int 0])), (hH, .inl (cI, 7, (.inl (upd (upd fh (0 : Int32).toNatClampNeg 1) (0 : Int32).toNatClampNeg 2)))), (hT, .inl (cJ, 7, (.inr (.inl (vp_updL (vp_updL ft (0 : Int32).toNatClampNeg 1) (0 : Int32).toNatClampNeg 1)))))] := hD
  refine lv_iinc (v := 3) (lv' := [(2, .int 3), (0, .ref x0), (1, .int 6)]) hx hb dX10_hangSolids_35 hl (k := 0) rfl (by decide) (by decide) rfl (fun ls hl => ?_)
  refine lv_goto (tgt := 9) hx hb dX10_hangSolids_38 (by decide) ?_
  refine lv_iload_n hx hb dX10_hangSolids_9 rfl (lv_at hl 0 rfl) ?_
  refine lv_iconst (v := 4) hx hb dX10_hangSolids_10 (by decide) ?_
  refine lv_icmp_ge (tgt := 41) hx hb dX10_hangSolids_11 (by decide) (fun c => absurd c (by decide)) (fun _ => ?_)
  refine lv_iload_n hx hb dX10_hangSolids_14 rfl (lv_at hl 2 rfl) ?_
  refine lv_iload_n hx hb dX10_hangSolids_15 rfl (lv_at hl 0 rfl) ?_
  refine lv_ishr hx hb dX10_hangSolids_16 ?_
  refine lv_topi (fun x_7 ex_7 => ?_)
  obtain rfl : x_7 = 0 := ex_7.trans (by first | rfl | decide)
  refine lv_iconst (v := 1) hx hb dX10_hangSolids_17 (by decide) ?_
  refine lv_iand hx hb dX10_hangSolids_18 ?_
  refine lv_topi (fun x_8 ex_8 => ?_)
  obtain rfl : x_8 = 0 := ex_8.trans (by first | rfl | decide)
  refine lv_iconst (v := 1) hx hb dX10_hangSolids_19 (by decide) ?_
  refine lv_icmp_ne (tgt := 35) hx hb dX10_hangSolids_20 (by decide) (fun _ => ?_) (fun c => absurd c (by decide))
  refine lv_iinc (v := 4) (lv' := [(2, .int 4), (0, .ref x0), (1, .int 6)]) hx hb dX10_hangSolids_35 hl (k := 0) rfl (by decide) (by decide) rfl (fun ls hl => ?_)
  refine lv_goto (tgt := 9) hx hb dX10_hangSolids_38 (by decide) ?_
  refine lv_iload_n hx hb dX10_hangSolids_9 rfl (lv_at hl 0 rfl) ?_
  refine lv_iconst (v := 4) hx hb dX10_hangSolids_10 (by decide) ?_
  refine lv_icmp_ge (tgt := 41) hx hb dX10_hangSolids_11 (by decide) (fun _ => ?_) (fun c => absurd (by decide) c)
  have hP9 := hP.sub (ws' := [(x0, .inr (10, [.ref xTape, .ref xReader, .ref xBag, .ref xBld, .ref xAng, .ref xSum, .ref xPik, .int 0, .ref xHan, .ref xIns, .ref xShr, .ref xSta, .ref xTur])), (xHan, .inr (3, [.int 0, .int 2, .int 1, .ref hH, .ref hR, .ref hT, .ref hM])), (xSum, .inr (8, [.ref sM, .ref sP, .ref sA, .int 0])), (hH, .inl (cI, 7, (.inl (upd (upd fh (0 : Int32).toNatClampNeg 1) (0 : Int32).toNatClampNeg 2)))), (hT, .inl (cJ, 7, (.inr (.inl (vp_updL (vp_updL ft (0 : Int32).toNatClampNeg 1) (0 : Int32).toNatClampNeg 1))))), (hM, .inl (cJ, 6, (.inr (.inl (vp_updL (fun _ => 0) (0 : Int32).toNatClampNeg 1)))))]) [0, 2, 3, 4, 5, 1] rfl
  have hD9 := hD.sub (ws' := [(x0, .inr (10, [.ref xTape, .ref xReader, .ref xBag, .ref xBld, .ref xAng, .ref xSum, .ref xPik, .int 0, .ref xHan, .ref xIns, .ref xShr, .ref xSta, .ref xTur])), (xHan, .inr (3, [.int 0, .int 2, .int 1, .ref hH, .ref hR, .ref hT, .ref hM])), (xSum, .inr (8, [.ref sM, .ref sP, .ref sA, .int 0])), (hH, .inl (cI, 7, (.inl (upd (upd fh (0 : Int32).toNatClampNeg 1) (0 : Int32).toNatClampNeg 2)))), (hT, .inl (cJ, 7, (.inr (.inl (vp_updL (vp_updL ft (0 : Int32).toNatClampNeg 1) (0 : Int32).toNatClampNeg 1))))), (hM, .inl (cJ, 6, (.inr (.inl (vp_updL (fun _ => 0) (0 : Int32).toNatClampNeg 1)))))]) [0, 2, 3, 4, 5, 1] (by decide) rfl
  refine W.widen (k := 0) (n := 0) (Nat.le_of_ble_eq_true rfl) (Nat.le_of_ble_eq_true rfl) ?_
  exact W.vret hx hb hr (fun t ht hW => ⟨⟨(), rfl, trivial, by rw [ht]; exact hP9, va_K.moved hW.alike hK, hD9⟩, hS.F ht⟩) hS.2.2 dX10_hangSolids_41
set_option maxHeartbeats 4000000 in
set_option maxRecDepth 100000 in
theorem c_X10_hangSolids_7 (l : Launch) (dC : Nat → ClassId) (dI : Nat → Nat → Nat) (cB cI cJ : ClassId) (sz : Nat) (x0 xTape xReader xBag xBld xAng xSum xPik xHan xIns xShr xSta xTur sM sP sA hH hR hT hM : Nat) (fh : Nat → Int32) (ft : Nat → Int64) : Met l yX10_hangSolids wsX10_hangSolids ({ frames := 5, cells := 0, slots := 0, locals := 118 }) (va_Pc [.ref x0, .int 7] (fun U => U.heap.size = sz ∧ va_P (dC, dI) vwCl [(x0, .inr (10, [.ref xTape, .ref xReader, .ref xBag, .ref xBld, .ref xAng, .ref xSum, .ref xPik, .int 0, .ref xHan, .ref xIns, .ref xShr, .ref xSta, .ref xTur])), (xSum, .inr (8, [.ref sM, .ref sP, .ref sA, .int 0])), (xHan, .inr (3, [.int 0, .int 0, .int 0, .ref hH, .ref hR, .ref hT, .ref hM])), (hH, .inl (cI, 7, (.inl fh))), (hT, .inl (cJ, 7, (.inr (.inl ft)))), (hM, .inl (cJ, 6, (.inr (.inl (fun _ => 0)))))] U.heap ∧ va_K (dC, dI) vwCl [(cB, .byte), (cI, .int), (cJ, .long)] U ∧ va_D (fun _ => True) [(x0, .inr (10, [.ref xTape, .ref xReader, .ref xBag, .ref xBld, .ref xAng, .ref xSum, .ref xPik, .int 0, .ref xHan, .ref xIns, .ref xShr, .ref xSta, .ref xTur])), (xSum, .inr (8, [.ref sM, .ref sP, .ref sA, .int 0])), (xHan, .inr (3, [.int 0, .int 0, .int 0, .ref hH, .ref hR, .ref hT, .ref hM])), (hH, .inl (cI, 7, (.inl fh))), (hT, .inl (cJ, 7, (.inr (.inl ft)))), (hM, .inl (cJ, 6, (.inr (.inl (fun _ => 0)))))] ∧ va_Nw (.methodLinkNest RX3 62 yX10_gcd "ScissorsTable") U)) (va_Qv (fun _ : Unit => True) (fun _ t => va_P (dC, dI) vwCl [(x0, .inr (10, [.ref xTape, .ref xReader, .ref xBag, .ref xBld, .ref xAng, .ref xSum, .ref xPik, .int 0, .ref xHan, .ref xIns, .ref xShr, .ref xSta, .ref xTur])), (xHan, .inr (3, [.int 0, .int 3, .int 1, .ref hH, .ref hR, .ref hT, .ref hM])), (xSum, .inr (8, [.ref sM, .ref sP, .ref sA, .int 0])), (hH, .inl (cI, 7, (.inl (upd (upd (upd fh (0 : Int32).toNatClampNeg 0) (0 : Int32).toNatClampNeg 1) (0 : Int32).toNatClampNeg 2)))), (hT, .inl (cJ, 7, (.inr (.inl (vp_updL (vp_updL (vp_updL ft (0 : Int32).toNatClampNeg 1) (0 : Int32).toNatClampNeg 1) (0 : Int32).toNatClampNeg 1))))), (hM, .inl (cJ, 6, (.inr (.inl (vp_updL (fun _ => 0) (0 : Int32).toNatClampNeg 1)))))] t.heap ∧ va_K (dC, dI) vwCl [(cB, .byte), (cI, .int), (cJ, .long)] t ∧ va_D (va_A [(x0, .inr (10, [.ref xTape, .ref xReader, .ref xBag, .ref xBld, .ref xAng, .ref xSum, .ref xPik, .int 0, .ref xHan, .ref xIns, .ref xShr, .ref xSta, .ref xTur])), (xSum, .inr (8, [.ref sM, .ref sP, .ref sA, .int 0])), (xHan, .inr (3, [.int 0, .int 0, .int 0, .ref hH, .ref hR, .ref hT, .ref hM])), (hH, .inl (cI, 7, (.inl fh))), (hT, .inl (cJ, 7, (.inr (.inl ft)))), (hM, .inl (cJ, 6, (.inr (.inl (fun _ => 0)))))] sz) [(x0, .inr (10, [.ref xTape, .ref xReader, .ref xBag, .ref xBld, .ref xAng, .ref xSum, .ref xPik, .int 0, .ref xHan, .ref xIns, .ref xShr, .ref xSta, .ref xTur])), (xHan, .inr (3, [.int 0, .int 3, .int 1, .ref hH, .ref hR, .ref hT, .ref hM])), (xSum, .inr (8, [.ref sM, .ref sP, .ref sA, .int 0])), (hH, .inl (cI, 7, (.inl (upd (upd (upd fh (0 : Int32).toNatClampNeg 0) (0 : Int32).toNatClampNeg 1) (0 : Int32).toNatClampNeg 2)))), (hT, .inl (cJ, 7, (.inr (.inl (vp_updL (vp_updL (vp_updL ft (0 : Int32).toNatClampNeg 1) (0 : Int32).toNatClampNeg 1) (0 : Int32).toNatClampNeg 1))))), (hM, .inl (cJ, 6, (.inr (.inl (vp_updL (fun _ => 0) (0 : Int32).toNatClampNeg 1)))))]) (va_A [(x0, .inr (10, [.ref xTape, .ref xReader, .ref xBag, .ref xBld, .ref xAng, .ref xSum, .ref xPik, .int 0, .ref xHan, .ref xIns, .ref xShr, .ref xSta, .ref xTur])), (xSum, .inr (8, [.ref sM, .ref sP, .ref sA, .int 0])), (xHan, .inr (3, [.int 0, .int 0, .int 0, .ref hH, .ref hR, .ref hT, .ref hM])), (hH, .inl (cI, 7, (.inl fh))), (hT, .inl (cJ, 7, (.inr (.inl ft)))), (hM, .inl (cJ, 6, (.inr (.inl (fun _ => 0)))))] sz)) 0 0 (va_A [(x0, .inr (10, [.ref xTape, .ref xReader, .ref xBag, .ref xBld, .ref xAng, .ref xSum, .ref xPik, .int 0, .ref xHan, .ref xIns, .ref xShr, .ref xSta, .ref xTur])), (xSum, .inr (8, [.ref sM, .ref sP, .ref sA, .int 0])), (xHan, .inr (3, [.int 0, .int 0, .int 0, .ref hH, .ref hR, .ref hT, .ref hM])), (hH, .inl (cI, 7, (.inl fh))), (hT, .inl (cJ, 7, (.inr (.inl ft)))), (hM, .inl (cJ, 6, (.inr (.inl (fun _ => 0)))))] sz) := by
  refine Met.ofW (cc := cX10_hangSolids) (maxL := 3) (ret := none) (by decide) rfl ?_
  intro p e s m args below meth c s₁ B hml hv
  obtain ⟨rfl, hsz, hP, hK, hD0, hN0⟩ := hv
  have hx := B.exec
  have hb := B.bytes
  have hr := B.returns
  have hts := atoms_spec (ws := wsX10_hangSolids) B.pre
  have hown : s.vm.findClass RX10 = some m.cls := findClass_of_methodNamed B.named
  have hlocks := B.notSynchronized
  have hiX10 : ∀ w ∈ u_ws RX10 TX10 13, w ∈ wsX10_hangSolids := by decide +kernel
  subst hsz
  have hD := hD0.self (sz := s.heap.size)
  generalize hAe : va_A [(x0, .inr (10, [.ref xTape, .ref xReader, .ref xBag, .ref xBld, .ref xAng, .ref xSum, .ref xPik, .int 0, .ref xHan, .ref xIns, .ref xShr, .ref xSta, .ref xTur])), (xSum, .inr (8, [.ref sM, .ref sP, .ref sA, .int 0])), (xHan, .inr (3, [.int 0, .int 0, .int 0, .ref hH, .ref hR, .ref hT, .ref hM])), (hH, .inl (cI, 7, (.inl fh))), (hT, .inl (cJ, 7, (.inr (.inl ft)))), (hM, .inl (cJ, 6, (.inr (.inl (fun _ => 0)))))] s.heap.size = A at hD ⊢
  have hA : ∀ q : Nat, s.heap.size ≤ q → A q := fun q h => by rw [← hAe]; exact Or.inr h
  have hS : va_S A s.heap s.heap [] := va_S.rf
  have hP : va_P (dC, dI) vwCl [(x0, .inr (10, [.ref xTape, .ref xReader, .ref xBag, .ref xBld, .ref xAng, .ref xSum, .ref xPik, .int 0, .ref xHan, .ref xIns, .ref xShr, .ref xSta, .ref xTur])), (xSum, .inr (8, [.ref sM, .ref sP, .ref sA, .int 0])), (xHan, .inr (3, [.int 0, .int 0, .int 0, .ref hH, .ref hR, .ref hT, .ref hM])), (hH, .inl (cI, 7, (.inl fh))), (hT, .inl (cJ, 7, (.inr (.inl ft)))), (hM, .inl (cJ, 6, (.inr (.inl (fun _ => 0)))))] s.heap := hP
  have hl := lv_entry ([.ref x0, .int 7]) (n := 3) (Nat.le_of_ble_eq_true rfl)
  rw [lg_entry_eq]
  generalize (lg_sl ([.ref x0, .int 7]) ++ List.replicate (3 - (lg_sl ([.ref x0, .int 7])).length) Slot.unset).toArray = ls at hl ⊢
  have hl : lv_has ls 3 [(0, .ref x0), (1, .int 7)] := hl
  refine lv_aload_n hx hb dX10_hangSolids_0 rfl (lv_at hl 0 rfl) ?_
  refine va_get (D := (dC, dI)) (ci := 10) (v := .ref xHan) (C := RX10) (T := TX10) (N := 13) hx hb hts hiX10 hown hK hP 0 rfl rfl 8 (by decide) (hts (.fieldLink RX10 61 "ScissorsTable" "hang" "LScissorsTable$Hang;") (by decide +kernel)) (fun _ h9 => h9) rfl dX10_hangSolids_1 ?_
  have hPc := hP.sub (ws' := [(xHan, .inr (3, [.int 0, .int 0, .int 0, .ref hH, .ref hR, .ref hT, .ref hM]))]) [2] rfl
  have hDc := hD.sub (ws' := [(xHan, .inr (3, [.int 0, .int 0, .int 0, .ref hH, .ref hR, .ref hT, .ref hM]))]) [2] (by decide) rfl
  have hFc := va_free (wc := [(xHan, .inr (3, [.int 0, .int 0, .int 0, .ref hH, .ref hR, .ref hT, .ref hM]))]) hD hS hA [2] rfl
  refine va_callv (va_runV (As := []) (rest := []) ⟨hx, hb, hml, hown, hts⟩ (c_X3_begin l dC dI cB cI cJ s.heap.size xHan hH hR hT hM) (cwV 0 hts gX10_hangSolids_X3_begin rfl rfl rfl (by decide +kernel) ⟨Nat.le_of_ble_eq_true rfl, Nat.le_of_ble_eq_true rfl⟩) ⟨fun a U g mk q => by obtain ⟨q0, q1, qP, qK, qD⟩ := q; exact ⟨q0, q1, qP, va_K.moved (u := U) (U := U.calling g mk a) (Vm.Alike.refl U.vm) qK, qD⟩, va_recv hK hP (ci := 3) (q0 := 2) rfl rfl, fun U hU hW => ⟨rfl, by rw [hU], by rw [hU]; exact hPc, va_K.moved hW.alike hK, hDc.weaken (fun _ _ _ _ => trivial)⟩⟩ rfl rfl hl.1 rfl (lv_room (Nat.le_of_ble_eq_true rfl)) dX10_hangSolids_4 ⟨Nat.le_of_ble_eq_true rfl, Nat.le_of_ble_eq_true rfl⟩) hS (fun q _ h => hFc q h) hFc (fun u t H1 locs ht hvm hw hB hz1 hk1 hS => ?_)
  obtain ⟨hP1, hK1, hD1⟩ := hB
  rw [ht] at hP1
  obtain ⟨hP, hD⟩ := va_join (wr := [(x0, .inr (10, [.ref xTape, .ref xReader, .ref xBag, .ref xBld, .ref xAng, .ref xSum, .ref xPik, .int 0, .ref xHan, .ref xIns, .ref xShr, .ref xSta, .ref xTur])), (xSum, .inr (8, [.ref sM, .ref sP, .ref sA, .int 0])), (hH, .inl (cI, 7, (.inl fh))), (hT, .inl (cJ, 7, (.inr (.inl ft)))), (hM, .inl (cJ, 6, (.inr (.inl (fun _ => 0)))))]) (w1 := [(xHan, .inr (3, [.int 0, .int 0, .int 0, .ref hH, .ref hR, .ref hT, .ref hM]))]) hP hD [2] [0, 1, 3, 4, 5] rfl rfl (by decide) (by decide) hk1 hFc hP1 hD1
  generalize H1 = H at hP hS ⊢
  have hP : va_P (dC, dI) vwCl [(x0, .inr (10, [.ref xTape, .ref xReader, .ref xBag, .ref xBld, .ref xAng, .ref xSum, .ref xPik, .int 0, .ref xHan, .ref xIns, .ref xShr, .ref xSta, .ref xTur])), (xSum, .inr (8, [.ref sM, .ref sP, .ref sA, .int 0])), (hH, .inl (cI, 7, (.inl fh))), (hT, .inl (cJ, 7, (.inr (.inl ft)))), (hM, .inl (cJ, 6, (.inr (.inl (fun _ => 0))))), (xHan, .inr (3, [.int 0, .int 0, .int 0, .ref hH, .ref hR, .ref hT, .ref hM]))] H := hP
  have hD : va_D A [(x0, .inr (10, [.ref xTape, .ref xReader, .ref xBag, .ref xBld, .ref xAng, .ref xSum, .ref xPik, .int 0, .ref xHan, .ref xIns, .ref xShr, .ref xSta, .ref xTur])), (xSum, .inr (8, [.ref sM, .ref sP, .ref sA, .int 0])), (hH, .inl (cI, 7, (.inl fh))), (hT, .inl (cJ, 7, (.inr (.inl ft)))), (hM, .inl (cJ, 6, (.inr (.inl (fun _ => 0))))), (xHan, .inr (3, [.int 0, .int 0, .int 0, .ref hH, .ref hR, .ref hT, .ref hM]))] := hD
  refine lv_iconst (v := 0) hx hb dX10_hangSolids_7 (by decide) ?_
  refine lv_istore_n (lv' := [(2, .int 0), (0, .ref x0), (1, .int 7)]) hx hb dX10_hangSolids_8 rfl hl (by decide) rfl (fun ls hl => ?_)
  refine lv_iload_n hx hb dX10_hangSolids_9 rfl (lv_at hl 0 rfl) ?_
  refine lv_iconst (v := 4) hx hb dX10_hangSolids_10 (by decide) ?_
  refine lv_icmp_ge (tgt := 41) hx hb dX10_hangSolids_11 (by decide) (fun c => absurd c (by decide)) (fun _ => ?_)
  refine lv_iload_n hx hb dX10_hangSolids_14 rfl (lv_at hl 2 rfl) ?_
  refine lv_iload_n hx hb dX10_hangSolids_15 rfl (lv_at hl 0 rfl) ?_
  refine lv_ishr hx hb dX10_hangSolids_16 ?_
  refine lv_topi (fun x_1 ex_1 => ?_)
  obtain rfl : x_1 = 7 := ex_1.trans (by first | rfl | decide)
  refine lv_iconst (v := 1) hx hb dX10_hangSolids_17 (by decide) ?_
  refine lv_iand hx hb dX10_hangSolids_18 ?_
  refine lv_topi (fun x_2 ex_2 => ?_)
  obtain rfl : x_2 = 1 := ex_2.trans (by first | rfl | decide)
  refine lv_iconst (v := 1) hx hb dX10_hangSolids_19 (by decide) ?_
  refine lv_icmp_ne (tgt := 35) hx hb dX10_hangSolids_20 (by decide) (fun c => absurd (by decide) c) (fun _ => ?_)
  refine lv_aload_n hx hb dX10_hangSolids_23 rfl (lv_at hl 1 rfl) ?_
  refine va_get (D := (dC, dI)) (ci := 10) (v := .ref xHan) (C := RX10) (T := TX10) (N := 13) hx hb hts hiX10 hown hK hP 0 rfl rfl 8 (by decide) (hts (.fieldLink RX10 61 "ScissorsTable" "hang" "LScissorsTable$Hang;") (by decide +kernel)) (fun _ h9 => h9) rfl dX10_hangSolids_24 ?_
  refine lv_aload_n hx hb dX10_hangSolids_27 rfl (lv_at hl 1 rfl) ?_
  refine va_get (D := (dC, dI)) (ci := 10) (v := .ref xSum) (C := RX10) (T := TX10) (N := 13) hx hb hts hiX10 hown hK hP 0 rfl rfl 5 (by decide) (hts (.fieldLink RX10 51 "ScissorsTable" "sums" "LScissorsTable$Sums;") (by decide +kernel)) (fun _ h9 => h9) rfl dX10_hangSolids_28 ?_
  refine lv_iload_n hx hb dX10_hangSolids_31 rfl (lv_at hl 0 rfl) ?_
  have hPc := hP.sub (ws' := [(xSum, .inr (8, [.ref sM, .ref sP, .ref sA, .int 0])), (xHan, .inr (3, [.int 0, .int 0, .int 0, .ref hH, .ref hR, .ref hT, .ref hM])), (hH, .inl (cI, 7, (.inl fh))), (hT, .inl (cJ, 7, (.inr (.inl ft)))), (hM, .inl (cJ, 6, (.inr (.inl (fun _ => 0)))))]) [1, 5, 2, 3, 4] rfl
  have hDc := hD.sub (ws' := [(xSum, .inr (8, [.ref sM, .ref sP, .ref sA, .int 0])), (xHan, .inr (3, [.int 0, .int 0, .int 0, .ref hH, .ref hR, .ref hT, .ref hM])), (hH, .inl (cI, 7, (.inl fh))), (hT, .inl (cJ, 7, (.inr (.inl ft)))), (hM, .inl (cJ, 6, (.inr (.inl (fun _ => 0)))))]) [1, 5, 2, 3, 4] (by decide) rfl
  have hFc := va_free (wc := [(xSum, .inr (8, [.ref sM, .ref sP, .ref sA, .int 0])), (xHan, .inr (3, [.int 0, .int 0, .int 0, .ref hH, .ref hR, .ref hT, .ref hM])), (hH, .inl (cI, 7, (.inl fh))), (hT, .inl (cJ, 7, (.inr (.inl ft)))), (hM, .inl (cJ, 6, (.inr (.inl (fun _ => 0)))))]) hD hS hA [1, 5, 2, 3, 4] rfl
  refine va_callv (va_runV (As := [.ref xSum, .int 0]) (rest := []) ⟨hx, hb, hml, hown, hts⟩ (c_X3_next_t0 l dC dI cB cI cJ H.size xSum sM sP sA xHan hH hR hT hM 0 fh ft) (cwV 2 hts gX10_hangSolids_X3_next rfl rfl rfl (by decide +kernel) ⟨Nat.le_of_ble_eq_true rfl, Nat.le_of_ble_eq_true rfl⟩) ⟨fun a U g mk q => by obtain ⟨q0, q1, qP, qK, qD, qN0⟩ := q; exact ⟨q0, q1, qP, va_K.moved (u := U) (U := U.calling g mk a) (Vm.Alike.refl U.vm) qK, qD, va_Nw.same rfl rfl qN0⟩, va_recv hK hP (ci := 3) (q0 := 5) rfl rfl, fun U hU hW => ⟨rfl, by rw [hU], by rw [hU]; exact hPc, va_K.moved hW.alike hK, hDc.weaken (fun _ _ _ _ => trivial), va_Nw.warmM hW hN0⟩⟩ rfl rfl hl.1 rfl (lv_room (Nat.le_of_ble_eq_true rfl)) dX10_hangSolids_32 ⟨Nat.le_of_ble_eq_true rfl, Nat.le_of_ble_eq_true rfl⟩) hS (fun q _ h => hFc q h) hFc (fun u t H1 locs ht hvm hw hB hz1 hk1 hS => ?_)
  obtain ⟨hP1, hK1, hD1⟩ := hB
  rw [ht] at hP1
  obtain ⟨hP, hD⟩ := va_join (wr := [(x0, .inr (10, [.ref xTape, .ref xReader, .ref xBag, .ref xBld, .ref xAng, .ref xSum, .ref xPik, .int 0, .ref xHan, .ref xIns, .ref xShr, .ref xSta, .ref xTur]))]) (w1 := [(xHan, .inr (3, [.int 0, .int 1, .int 1, .ref hH, .ref hR, .ref hT, .ref hM])), (xSum, .inr (8, [.ref sM, .ref sP, .ref sA, .int 0])), (hH, .inl (cI, 7, (.inl (upd fh (0 : Int32).toNatClampNeg 0)))), (hT, .inl (cJ, 7, (.inr (.inl (vp_updL ft (0 : Int32).toNatClampNeg 1))))), (hM, .inl (cJ, 6, (.inr (.inl (vp_updL (fun _ => 0) (0 : Int32).toNatClampNeg 1)))))]) hP hD [1, 5, 2, 3, 4] [0] rfl rfl (by decide) (by decide) hk1 hFc hP1 hD1
  generalize H1 = H at hP hS ⊢
  have hP : va_P (dC, dI) vwCl [(x0, .inr (10, [.ref xTape, .ref xReader, .ref xBag, .ref xBld, .ref xAng, .ref xSum, .ref xPik, .int 0, .ref xHan, .ref xIns, .ref xShr, .ref xSta, .ref xTur])), (xHan, .inr (3, [.int 0, .int 1, .int 1, .ref hH, .ref hR, .ref hT, .ref hM])), (xSum, .inr (8, [.ref sM, .ref sP, .ref sA, .int 0])), (hH, .inl (cI, 7, (.inl (upd fh (0 : Int32).toNatClampNeg 0)))), (hT, .inl (cJ, 7, (.inr (.inl (vp_updL ft (0 : Int32).toNatClampNeg 1))))), (hM, .inl (cJ, 6, (.inr (.inl (vp_updL (fun _ => 0) (0 : Int32).toNatClampNeg 1)))))] H := hP
  have hD : va_D A [(x0, .inr (10, [.ref xTape, .ref xReader, .ref xBag, .ref xBld, .ref xAng, .ref xSum, .ref xPik, .int 0, .ref xHan, .ref xIns, .ref xShr, .ref xSta, .ref xTur])), (xHan, .inr (3, [.int 0, .int 1, .int 1, .ref hH, .ref hR, .ref hT, .ref hM])), (xSum, .inr (8, [.ref sM, .ref sP, .ref sA, .int 0])), (hH, .inl (cI, 7, (.inl (upd fh (0 : Int32).toNatClampNeg 0)))), (hT, .inl (cJ, 7, (.inr (.inl (vp_updL ft (0 : Int32).toNatClampNeg 1))))), (hM, .inl (cJ, 6, (.inr (.inl (vp_updL (fun _ => 0) (0 : Int32).toNatClampNeg 1)))))] := hD
  refine lv_iinc (v := 1) (lv' := [(2, .int 1), (0, .ref x0), (1, .int 7)]) hx hb dX10_hangSolids_35 hl (k := 0) rfl (by decide) (by decide) rfl (fun ls hl => ?_)
  refine lv_goto (tgt := 9) hx hb dX10_hangSolids_38 (by decide) ?_
  refine lv_iload_n hx hb dX10_hangSolids_9 rfl (lv_at hl 0 rfl) ?_
  refine lv_iconst (v := 4) hx hb dX10_hangSolids_10 (by decide) ?_
  refine lv_icmp_ge (tgt := 41) hx hb dX10_hangSolids_11 (by decide) (fun c => absurd c (by decide)) (fun _ => ?_)
  refine lv_iload_n hx hb dX10_hangSolids_14 rfl (lv_at hl 2 rfl) ?_
  refine lv_iload_n hx hb dX10_hangSolids_15 rfl (lv_at hl 0 rfl) ?_
  refine lv_ishr hx hb dX10_hangSolids_16 ?_
  refine lv_topi (fun x_3 ex_3 => ?_)
  obtain rfl : x_3 = 3 := ex_3.trans (by first | rfl | decide)
  refine lv_iconst (v := 1) hx hb dX10_hangSolids_17 (by decide) ?_
  refine lv_iand hx hb dX10_hangSolids_18 ?_
  refine lv_topi (fun x_4 ex_4 => ?_)
  obtain rfl : x_4 = 1 := ex_4.trans (by first | rfl | decide)
  refine lv_iconst (v := 1) hx hb dX10_hangSolids_19 (by decide) ?_
  refine lv_icmp_ne (tgt := 35) hx hb dX10_hangSolids_20 (by decide) (fun c => absurd (by decide) c) (fun _ => ?_)
  refine lv_aload_n hx hb dX10_hangSolids_23 rfl (lv_at hl 1 rfl) ?_
  refine va_get (D := (dC, dI)) (ci := 10) (v := .ref xHan) (C := RX10) (T := TX10) (N := 13) hx hb hts hiX10 hown hK hP 0 rfl rfl 8 (by decide) (hts (.fieldLink RX10 61 "ScissorsTable" "hang" "LScissorsTable$Hang;") (by decide +kernel)) (fun _ h9 => h9) rfl dX10_hangSolids_24 ?_
  refine lv_aload_n hx hb dX10_hangSolids_27 rfl (lv_at hl 1 rfl) ?_
  refine va_get (D := (dC, dI)) (ci := 10) (v := .ref xSum) (C := RX10) (T := TX10) (N := 13) hx hb hts hiX10 hown hK hP 0 rfl rfl 5 (by decide) (hts (.fieldLink RX10 51 "ScissorsTable" "sums" "LScissorsTable$Sums;") (by decide +kernel)) (fun _ h9 => h9) rfl dX10_hangSolids_28 ?_
  refine lv_iload_n hx hb dX10_hangSolids_31 rfl (lv_at hl 0 rfl) ?_
  have hPc := hP.sub (ws' := [(xSum, .inr (8, [.ref sM, .ref sP, .ref sA, .int 0])), (xHan, .inr (3, [.int 0, .int 1, .int 1, .ref hH, .ref hR, .ref hT, .ref hM])), (hH, .inl (cI, 7, (.inl (upd fh (0 : Int32).toNatClampNeg 0)))), (hT, .inl (cJ, 7, (.inr (.inl (vp_updL ft (0 : Int32).toNatClampNeg 1)))))]) [2, 1, 3, 4] rfl
  have hDc := hD.sub (ws' := [(xSum, .inr (8, [.ref sM, .ref sP, .ref sA, .int 0])), (xHan, .inr (3, [.int 0, .int 1, .int 1, .ref hH, .ref hR, .ref hT, .ref hM])), (hH, .inl (cI, 7, (.inl (upd fh (0 : Int32).toNatClampNeg 0)))), (hT, .inl (cJ, 7, (.inr (.inl (vp_updL ft (0 : Int32).toNatClampNeg 1)))))]) [2, 1, 3, 4] (by decide) rfl
  have hFc := va_free (wc := [(xSum, .inr (8, [.ref sM, .ref sP, .ref sA, .int 0])), (xHan, .inr (3, [.int 0, .int 1, .int 1, .ref hH, .ref hR, .ref hT, .ref hM])), (hH, .inl (cI, 7, (.inl (upd fh (0 : Int32).toNatClampNeg 0)))), (hT, .inl (cJ, 7, (.inr (.inl (vp_updL ft (0 : Int32).toNatClampNeg 1)))))]) hD hS hA [2, 1, 3, 4] rfl
  refine va_callv (va_runV (As := [.ref xSum, .int 1]) (rest := []) ⟨hx, hb, hml, hown, hts⟩ (c_X3_next_t1 l dC dI cB cI cJ H.size xSum sM sP sA xHan hH hR hT hM 1 (upd fh (0 : Int32).toNatClampNeg 0) (vp_updL ft (0 : Int32).toNatClampNeg 1)) (cwV 2 hts gX10_hangSolids_X3_next rfl rfl rfl (by decide +kernel) ⟨Nat.le_of_ble_eq_true rfl, Nat.le_of_ble_eq_true rfl⟩) ⟨fun a U g mk q => by obtain ⟨q0, q1, qP, qK, qD⟩ := q; exact ⟨q0, q1, qP, va_K.moved (u := U) (U := U.calling g mk a) (Vm.Alike.refl U.vm) qK, qD⟩, va_recv hK hP (ci := 3) (q0 := 1) rfl rfl, fun U hU hW => ⟨rfl, by rw [hU], by rw [hU]; exact hPc, va_K.moved hW.alike hK, hDc.weaken (fun _ _ _ _ => trivial)⟩⟩ rfl rfl hl.1 rfl (lv_room (Nat.le_of_ble_eq_true rfl)) dX10_hangSolids_32 ⟨Nat.le_of_ble_eq_true rfl, Nat.le_of_ble_eq_true rfl⟩) hS (fun q _ h => hFc q h) hFc (fun u t H1 locs ht hvm hw hB hz1 hk1 hS => ?_)
  obtain ⟨hP1, hK1, hD1⟩ := hB
  rw [ht] at hP1
  obtain ⟨hP, hD⟩ := va_join (wr := [(x0, .inr (10, [.ref xTape, .ref xReader, .ref xBag, .ref xBld, .ref xAng, .ref xSum, .ref xPik, .int 0, .ref xHan, .ref xIns, .ref xShr, .ref xSta, .ref xTur])), (hM, .inl (cJ, 6, (.inr (.inl (vp_updL (fun _ => 0) (0 : Int32).toNatClampNeg 1)))))]) (w1 := [(xHan, .inr (3, [.int 0, .int 2, .int 1, .ref hH, .ref hR, .ref hT, .ref hM])), (xSum, .inr (8, [.ref sM, .ref sP, .ref sA, .int 0])), (hH, .inl (cI, 7, (.inl (upd (upd fh (0 : Int32).toNatClampNeg 0) (0 : Int32).toNatClampNeg 1)))), (hT, .inl (cJ, 7, (.inr (.inl (vp_updL (vp_updL ft (0 : Int32).toNatClampNeg 1) (0 : Int32).toNatClampNeg 1)))))]) hP hD [2, 1, 3, 4] [0, 5] rfl rfl (by decide) (by decide) hk1 hFc hP1 hD1
  generalize H1 = H at hP hS ⊢
  have hP : va_P (dC, dI) vwCl [(x0, .inr (10, [.ref xTape, .ref xReader, .ref xBag, .ref xBld, .ref xAng, .ref xSum, .ref xPik, .int 0, .ref xHan, .ref xIns, .ref xShr, .ref xSta, .ref xTur])), (hM, .inl (cJ, 6, (.inr (.inl (vp_updL (fun _ => 0) (0 : Int32).toNatClampNeg 1))))), (xHan, .inr (3, [.int 0, .int 2, .int 1, .ref hH, .ref hR, .ref hT, .ref hM])), (xSum, .inr (8, [.ref sM, .ref sP, .ref sA, .int 0])), (hH, .inl (cI, 7, (.inl (upd (upd fh (0 : Int32).toNatClampNeg 0) (0 : Int32).toNatClampNeg 1)))), (hT, .inl (cJ, 7, (.inr (.inl (vp_updL (vp_updL ft (0 : Int32).toNatClampNeg 1) (0 : Int32).toNatClampNeg 1)))))] H := hP
  have hD : va_D A [(x0, .inr (10, [.ref xTape, .ref xReader, .ref xBag, .ref xBld, .ref xAng, .ref xSum, .ref xPik, .int 0, .ref xHan, .ref xIns, .ref xShr, .ref xSta, .ref xTur])), (hM, .inl (cJ, 6, (.inr (.inl (vp_updL (fun _ => 0) (0 : Int32).toNatClampNeg 1))))), (xHan, .inr (3, [.int 0, .int 2, .int 1, .ref hH, .ref hR, .ref hT, .ref hM])), (xSum, .inr (8, [.ref sM, .ref sP, .ref sA, .int 0])), (hH, .inl (cI, 7, (.inl (upd (upd fh (0 : Int32).toNatClampNeg 0) (0 : Int32).toNatClampNeg 1)))), (hT, .inl (cJ, 7, (.inr (.inl (vp_updL (vp_updL ft (0 : Int32).toNatClampNeg 1) (0 : Int32).toNatClampNeg 1)))))] := hD
  refine lv_iinc (v := 2) (lv' := [(2, .int 2), (0, .ref x0), (1, .int 7)]) hx hb dX10_hangSolids_35 hl (k := 0) rfl (by decide) (by decide) rfl (fun ls hl => ?_)
  refine lv_goto (tgt := 9) hx hb dX10_hangSolids_38 (by decide) ?_
  refine lv_iload_n hx hb dX10_hangSolids_9 rfl (lv_at hl 0 rfl) ?_
  refine lv_iconst (v := 4) hx hb dX10_hangSolids_10 (by decide) ?_
  refine lv_icmp_ge (tgt := 41) hx hb dX10_hangSolids_11 (by decide) (fun c => absurd c (by decide)) (fun _ => ?_)
  refine lv_iload_n hx hb dX10_hangSolids_14 rfl (lv_at hl 2 rfl) ?_
  refine lv_iload_n hx hb dX10_hangSolids_15 rfl (lv_at hl 0 rfl) ?_
  refine lv_ishr hx hb dX10_hangSolids_16 ?_
  refine lv_topi (fun x_5 ex_5 => ?_)
  obtain rfl : x_5 = 1 := ex_5.trans (by first | rfl | decide)
  refine lv_iconst (v := 1) hx hb dX10_hangSolids_17 (by decide) ?_
  refine lv_iand hx hb dX10_hangSolids_18 ?_
  refine lv_topi (fun x_6 ex_6 => ?_)
  obtain rfl : x_6 = 1 := ex_6.trans (by first | rfl | decide)
  refine lv_iconst (v := 1) hx hb dX10_hangSolids_19 (by decide) ?_
  refine lv_icmp_ne (tgt := 35) hx hb dX10_hangSolids_20 (by decide) (fun c => absurd (by decide) c) (fun _ => ?_)
  refine lv_aload_n hx hb dX10_hangSolids_23 rfl (lv_at hl 1 rfl) ?_
  refine va_get (D := (dC, dI)) (ci := 10) (v := .ref xHan) (C := RX10) (T := TX10) (N := 13) hx hb hts hiX10 hown hK hP 0 rfl rfl 8 (by decide) (hts (.fieldLink RX10 61 "ScissorsTable" "hang" "LScissorsTable$Hang;") (by decide +kernel)) (fun _ h9 => h9) rfl dX10_hangSolids_24 ?_
  refine lv_aload_n hx hb dX10_hangSolids_27 rfl (lv_at hl 1 rfl) ?_
  refine va_get (D := (dC, dI)) (ci := 10) (v := .ref xSum) (C := RX10) (T := TX10) (N := 13) hx hb hts hiX10 hown hK hP 0 rfl rfl 5 (by decide) (hts (.fieldLink RX10 51 "ScissorsTable" "sums" "LScissorsTable$Sums;") (by decide +kernel)) (fun _ h9 => h9) rfl dX10_hangSolids_28 ?_
  refine lv_iload_n hx hb dX10_hangSolids_31 rfl (lv_at hl 0 rfl) ?_
  have hPc := hP.sub (ws' := [(xSum, .inr (8, [.ref sM, .ref sP, .ref sA, .int 0])), (xHan, .inr (3, [.int 0, .int 2, .int 1, .ref hH, .ref hR, .ref hT, .ref hM])), (hH, .inl (cI, 7, (.inl (upd (upd fh (0 : Int32).toNatClampNeg 0) (0 : Int32).toNatClampNeg 1)))), (hT, .inl (cJ, 7, (.inr (.inl (vp_updL (vp_updL ft (0 : Int32).toNatClampNeg 1) (0 : Int32).toNatClampNeg 1)))))]) [3, 2, 4, 5] rfl
  have hDc := hD.sub (ws' := [(xSum, .inr (8, [.ref sM, .ref sP, .ref sA, .int 0])), (xHan, .inr (3, [.int 0, .int 2, .int 1, .ref hH, .ref hR, .ref hT, .ref hM])), (hH, .inl (cI, 7, (.inl (upd (upd fh (0 : Int32).toNatClampNeg 0) (0 : Int32).toNatClampNeg 1)))), (hT, .inl (cJ, 7, (.inr (.inl (vp_updL (vp_updL ft (0 : Int32).toNatClampNeg 1) (0 : Int32).toNatClampNeg 1)))))]) [3, 2, 4, 5] (by decide) rfl
  have hFc := va_free (wc := [(xSum, .inr (8, [.ref sM, .ref sP, .ref sA, .int 0])), (xHan, .inr (3, [.int 0, .int 2, .int 1, .ref hH, .ref hR, .ref hT, .ref hM])), (hH, .inl (cI, 7, (.inl (upd (upd fh (0 : Int32).toNatClampNeg 0) (0 : Int32).toNatClampNeg 1)))), (hT, .inl (cJ, 7, (.inr (.inl (vp_updL (vp_updL ft (0 : Int32).toNatClampNeg 1) (0 : Int32).toNatClampNeg 1)))))]) hD hS hA [3, 2, 4, 5] rfl
  refine va_callv (va_runV (As := [.ref xSum, .int 2]) (rest := []) ⟨hx, hb, hml, hown, hts⟩ (c_X3_next_t2 l dC dI cB cI cJ H.size xSum sM sP sA xHan hH hR hT hM 2 (upd (upd fh (0 : Int32).toNatClampNeg 0) (0 : Int32).toNatClampNeg 1) (vp_updL (vp_updL ft (0 : Int32).toNatClampNeg 1) (0 : Int32).toNatClampNeg 1)) (cwV 2 hts gX10_hangSolids_X3_next rfl rfl rfl (by decide +kernel) ⟨Nat.le_of_ble_eq_true rfl, Nat.le_of_ble_eq_true rfl⟩) ⟨fun a U g mk q => by obtain ⟨q0, q1, qP, qK, qD⟩ := q; exact ⟨q0, q1, qP, va_K.moved (u := U) (U := U.calling g mk a) (Vm.Alike.refl U.vm) qK, qD⟩, va_recv hK hP (ci := 3) (q0 := 2) rfl rfl, fun U hU hW => ⟨rfl, by rw [hU], by rw [hU]; exact hPc, va_K.moved hW.alike hK, hDc.weaken (fun _ _ _ _ => trivial)⟩⟩ rfl rfl hl.1 rfl (lv_room (Nat.le_of_ble_eq_true rfl)) dX10_hangSolids_32 ⟨Nat.le_of_ble_eq_true rfl, Nat.le_of_ble_eq_true rfl⟩) hS (fun q _ h => hFc q h) hFc (fun u t H1 locs ht hvm hw hB hz1 hk1 hS => ?_)
  obtain ⟨hP1, hK1, hD1⟩ := hB
  rw [ht] at hP1
  obtain ⟨hP, hD⟩ := va_join (wr := [(x0, .inr (10, [.ref xTape, .ref xReader, .ref xBag, .ref xBld, .ref xAng, .ref xSum, .ref xPik, .int 0, .ref xHan, .ref xIns, .ref xShr, .ref xSta, .ref xTur])), (hM, .inl (cJ, 6, (.inr (.inl (vp_updL (fun _ => 0) (0 : Int32).toNatClampNeg 1)))))]) (w1 := [(xHan, .inr (3, [.int 0, .int 3, .int 1, .ref hH, .ref hR, .ref hT, .ref hM])), (xSum, .inr (8, [.ref sM, .ref sP, .ref sA, .int 0])), (hH, .inl (cI, 7, (.inl (upd (upd (upd fh (0 : Int32).toNatClampNeg 0) (0 : Int32).toNatClampNeg 1) (0 : Int32).toNatClampNeg 2)))), (hT, .inl (cJ, 7, (.inr (.inl (vp_updL (vp_updL (vp_updL ft (0 : Int32).toNatClampNeg 1) (0 : Int32).toNatClampNeg 1) (0 : Int32).toNatClampNeg 1)))))]) hP hD [3, 2, 4, 5] [0, 1] rfl rfl (by decide) (by decide) hk1 hFc hP1 hD1
  generalize H1 = H at hP hS ⊢
  have hP : va_P (dC, dI) vwCl [(x0, .inr (10, [.ref xTape, .ref xReader, .ref xBag, .ref xBld, .ref xAng, .ref xSum, .ref xPik, .int 0, .ref xHan, .ref xIns, .ref xShr, .ref xSta, .ref xTur])), (hM, .inl (cJ, 6, (.inr (.inl (vp_updL (fun _ => 0) (0 : Int32).toNatClampNeg 1))))), (xHan, .inr (3, [.int 0, .int 3, .int 1, .ref hH, .ref hR, .ref hT, .ref hM])), (xSum, .inr (8, [.ref sM, .ref sP, .ref sA, .int 0])), (hH, .inl (cI, 7, (.inl (upd (upd (upd fh (0 : Int32).toNatClampNeg 0) (0 : Int32).toNatClampNeg 1) (0 : Int32).toNatClampNeg 2)))), (hT, .inl (cJ, 7, (.inr (.inl (vp_updL (vp_updL (vp_updL ft (0 : Int32).toNatClampNeg 1) (0 : Int32).toNatClampNeg 1) (0 : Int32).toNatClampNeg 1)))))] H := hP
  have hD : va_D A [(x0, .inr (10, [.ref xTape, .ref xReader, .ref xBag, .ref xBld, .ref xAng, .ref xSum, .ref xPik, .int 0, .ref xHan, .ref xIns, .ref xShr, .ref xSta, .ref xTur])), (hM, .inl (cJ, 6, (.inr (.inl (vp_updL (fun _ => 0) (0 : Int32).toNatClampNeg 1))))), (xHan, .inr (3, [.int 0, .int 3, .int 1, .ref hH, .ref hR, .ref hT, .ref hM])), (xSum, .inr (8, [.ref sM, .ref sP, .ref sA, .int 0])), (hH, .inl (cI, 7, (.inl (upd (upd (upd fh (0 : Int32).toNatClampNeg 0) (0 : Int32).toNatClampNeg 1) (0 : Int32).toNatClampNeg 2)))), (hT, .inl (cJ, 7, (.inr (.inl (vp_updL (vp_updL (vp_updL ft (0 : Int32).toNatClampNeg 1) (0 : Int32).toNatClampNeg 1) (0 : Int32).toNatClampNeg 1)))))] := hD
  refine lv_iinc (v := 3) (lv' := [(2, .int 3), (0, .ref x0), (1, .int 7)]) hx hb dX10_hangSolids_35 hl (k := 0) rfl (by decide) (by decide) rfl (fun ls hl => ?_)
  refine lv_goto (tgt := 9) hx hb dX10_hangSolids_38 (by decide) ?_
  refine lv_iload_n hx hb dX10_hangSolids_9 rfl (lv_at hl 0 rfl) ?_
  refine lv_iconst (v := 4) hx hb dX10_hangSolids_10 (by decide) ?_
  refine lv_icmp_ge (tgt := 41) hx hb dX10_hangSolids_11 (by decide) (fun c => absurd c (by decide)) (fun _ => ?_)
  refine lv_iload_n hx hb dX10_hangSolids_14 rfl (lv_at hl 2 rfl) ?_
  refine lv_iload_n hx hb dX10_hangSolids_15 rfl (lv_at hl 0 rfl) ?_
  refine lv_ishr hx hb dX10_hangSolids_16 ?_
  refine lv_topi (fun x_7 ex_7 => ?_)
  obtain rfl : x_7 = 0 := ex_7.trans (by first | rfl | decide)
  refine lv_iconst (v := 1) hx hb dX10_hangSolids_17 (by decide) ?_
  refine lv_iand hx hb dX10_hangSolids_18 ?_
  refine lv_topi (fun x_8 ex_8 => ?_)
  obtain rfl : x_8 = 0 := ex_8.trans (by first | rfl | decide)
  refine lv_iconst (v := 1) hx hb dX10_hangSolids_19 (by decide) ?_
  refine lv_icmp_ne (tgt := 35) hx hb dX10_hangSolids_20 (by decide) (fun _ => ?_) (fun c => absurd c (by decide))
  refine lv_iinc (v := 4) (lv' := [(2, .int 4), (0, .ref x0), (1, .int 7)]) hx hb dX10_hangSolids_35 hl (k := 0) rfl (by decide) (by decide) rfl (fun ls hl => ?_)
  refine lv_goto (tgt := 9) hx hb dX10_hangSolids_38 (by decide) ?_
  refine lv_iload_n hx hb dX10_hangSolids_9 rfl (lv_at hl 0 rfl) ?_
  refine lv_iconst (v := 4) hx hb dX10_hangSolids_10 (by decide) ?_
  refine lv_icmp_ge (tgt := 41) hx hb dX10_hangSolids_11 (by decide) (fun _ => ?_) (fun c => absurd (by decide) c)
  have hP9 := hP.sub (ws' := [(x0, .inr (10, [.ref xTape, .ref xReader, .ref xBag, .ref xBld, .ref xAng, .ref xSum, .ref xPik, .int 0, .ref xHan, .ref xIns, .ref xShr, .ref xSta, .ref xTur])), (xHan, .inr (3, [.int 0, .int 3, .int 1, .ref hH, .ref hR, .ref hT, .ref hM])), (xSum, .inr (8, [.ref sM, .ref sP, .ref sA, .int 0])), (hH, .inl (cI, 7, (.inl (upd (upd (upd fh (0 : Int32).toNatClampNeg 0) (0 : Int32).toNatClampNeg 1) (0 : Int32).toNatClampNeg 2)))), (hT, .inl (cJ, 7, (.inr (.inl (vp_updL (vp_updL (vp_updL ft (0 : Int32).toNatClampNeg 1) (0 : Int32).toNatClampNeg 1) (0 : Int32).toNatClampNeg 1))))), (hM, .inl (cJ, 6, (.inr (.inl (vp_updL (fun _ => 0) (0 : Int32).toNatClampNeg 1)))))]) [0, 2, 3, 4, 5, 1] rfl
  have hD9 := hD.sub (ws' := [(x0, .inr (10, [.ref xTape, .ref xReader, .ref xBag, .ref xBld, .ref xAng, .ref xSum, .ref xPik, .int 0, .ref xHan, .ref xIns, .ref xShr, .ref xSta, .ref xTur])), (xHan, .inr (3, [.int 0, .int 3, .int 1, .ref hH, .ref hR, .ref hT, .ref hM])), (xSum, .inr (8, [.ref sM, .ref sP, .ref sA, .int 0])), (hH, .inl (cI, 7, (.inl (upd (upd (upd fh (0 : Int32).toNatClampNeg 0) (0 : Int32).toNatClampNeg 1) (0 : Int32).toNatClampNeg 2)))), (hT, .inl (cJ, 7, (.inr (.inl (vp_updL (vp_updL (vp_updL ft (0 : Int32).toNatClampNeg 1) (0 : Int32).toNatClampNeg 1) (0 : Int32).toNatClampNeg 1))))), (hM, .inl (cJ, 6, (.inr (.inl (vp_updL (fun _ => 0) (0 : Int32).toNatClampNeg 1)))))]) [0, 2, 3, 4, 5, 1] (by decide) rfl
  refine W.widen (k := 0) (n := 0) (Nat.le_of_ble_eq_true rfl) (Nat.le_of_ble_eq_true rfl) ?_
  exact W.vret hx hb hr (fun t ht hW => ⟨⟨(), rfl, trivial, by rw [ht]; exact hP9, va_K.moved hW.alike hK, hD9⟩, hS.F ht⟩) hS.2.2 dX10_hangSolids_41
set_option maxHeartbeats 4000000 in
set_option maxRecDepth 100000 in
theorem c_X10_hangSolids_8 (l : Launch) (dC : Nat → ClassId) (dI : Nat → Nat → Nat) (cB cI cJ : ClassId) (sz : Nat) (x0 xTape xReader xBag xBld xAng xSum xPik xHan xIns xShr xSta xTur sM sP sA hH hR hT hM : Nat) (fh : Nat → Int32) (ft : Nat → Int64) : Met l yX10_hangSolids wsX10_hangSolids ({ frames := 5, cells := 0, slots := 0, locals := 118 }) (va_Pc [.ref x0, .int 8] (fun U => U.heap.size = sz ∧ va_P (dC, dI) vwCl [(x0, .inr (10, [.ref xTape, .ref xReader, .ref xBag, .ref xBld, .ref xAng, .ref xSum, .ref xPik, .int 0, .ref xHan, .ref xIns, .ref xShr, .ref xSta, .ref xTur])), (xSum, .inr (8, [.ref sM, .ref sP, .ref sA, .int 0])), (xHan, .inr (3, [.int 0, .int 0, .int 0, .ref hH, .ref hR, .ref hT, .ref hM])), (hH, .inl (cI, 7, (.inl fh))), (hT, .inl (cJ, 7, (.inr (.inl ft)))), (hM, .inl (cJ, 6, (.inr (.inl (fun _ => 0)))))] U.heap ∧ va_K (dC, dI) vwCl [(cB, .byte), (cI, .int), (cJ, .long)] U ∧ va_D (fun _ => True) [(x0, .inr (10, [.ref xTape, .ref xReader, .ref xBag, .ref xBld, .ref xAng, .ref xSum, .ref xPik, .int 0, .ref xHan, .ref xIns, .ref xShr, .ref xSta, .ref xTur])), (xSum, .inr (8, [.ref sM, .ref sP, .ref sA, .int 0])), (xHan, .inr (3, [.int 0, .int 0, .int 0, .ref hH, .ref hR, .ref hT, .ref hM])), (hH, .inl (cI, 7, (.inl fh))), (hT, .inl (cJ, 7, (.inr (.inl ft)))), (hM, .inl (cJ, 6, (.inr (.inl (fun _ => 0)))))] ∧ va_Nw (.methodLinkNest RX3 62 yX10_gcd "ScissorsTable") U)) (va_Qv (fun _ : Unit => True) (fun _ t => va_P (dC, dI) vwCl [(x0, .inr (10, [.ref xTape, .ref xReader, .ref xBag, .ref xBld, .ref xAng, .ref xSum, .ref xPik, .int 0, .ref xHan, .ref xIns, .ref xShr, .ref xSta, .ref xTur])), (xHan, .inr (3, [.int 0, .int 1, .int 1, .ref hH, .ref hR, .ref hT, .ref hM])), (xSum, .inr (8, [.ref sM, .ref sP, .ref sA, .int 0])), (hH, .inl (cI, 7, (.inl (upd fh (0 : Int32).toNatClampNeg 3)))), (hT, .inl (cJ, 7, (.inr (.inl (vp_updL ft (0 : Int32).toNatClampNeg 1))))), (hM, .inl (cJ, 6, (.inr (.inl (vp_updL (fun _ => 0) (0 : Int32).toNatClampNeg 1)))))] t.heap ∧ va_K (dC, dI) vwCl [(cB, .byte), (cI, .int), (cJ, .long)] t ∧ va_D (va_A [(x0, .inr (10, [.ref xTape, .ref xReader, .ref xBag, .ref xBld, .ref xAng, .ref xSum, .ref xPik, .int 0, .ref xHan, .ref xIns, .ref xShr, .ref xSta, .ref xTur])), (xSum, .inr (8, [.ref sM, .ref sP, .ref sA, .int 0])), (xHan, .inr (3, [.int 0, .int 0, .int 0, .ref hH, .ref hR, .ref hT, .ref hM])), (hH, .inl (cI, 7, (.inl fh))), (hT, .inl (cJ, 7, (.inr (.inl ft)))), (hM, .inl (cJ, 6, (.inr (.inl (fun _ => 0)))))] sz) [(x0, .inr (10, [.ref xTape, .ref xReader, .ref xBag, .ref xBld, .ref xAng, .ref xSum, .ref xPik, .int 0, .ref xHan, .ref xIns, .ref xShr, .ref xSta, .ref xTur])), (xHan, .inr (3, [.int 0, .int 1, .int 1, .ref hH, .ref hR, .ref hT, .ref hM])), (xSum, .inr (8, [.ref sM, .ref sP, .ref sA, .int 0])), (hH, .inl (cI, 7, (.inl (upd fh (0 : Int32).toNatClampNeg 3)))), (hT, .inl (cJ, 7, (.inr (.inl (vp_updL ft (0 : Int32).toNatClampNeg 1))))), (hM, .inl (cJ, 6, (.inr (.inl (vp_updL (fun _ => 0) (0 : Int32).toNatClampNeg 1)))))]) (va_A [(x0, .inr (10, [.ref xTape, .ref xReader, .ref xBag, .ref xBld, .ref xAng, .ref xSum, .ref xPik, .int 0, .ref xHan, .ref xIns, .ref xShr, .ref xSta, .ref xTur])), (xSum, .inr (8, [.ref sM, .ref sP, .ref sA, .int 0])), (xHan, .inr (3, [.int 0, .int 0, .int 0, .ref hH, .ref hR, .ref hT, .ref hM])), (hH, .inl (cI, 7, (.inl fh))), (hT, .inl (cJ, 7, (.inr (.inl ft)))), (hM, .inl (cJ, 6, (.inr (.inl (fun _ => 0)))))] sz)) 0 0 (va_A [(x0, .inr (10, [.ref xTape, .ref xReader, .ref xBag, .ref xBld, .ref xAng, .ref xSum, .ref xPik, .int 0, .ref xHan, .ref xIns, .ref xShr, .ref xSta, .ref xTur])), (xSum, .inr (8, [.ref sM, .ref sP, .ref sA, .int 0])), (xHan, .inr (3, [.int 0, .int 0, .int 0, .ref hH, .ref hR, .ref hT, .ref hM])), (hH, .inl (cI, 7, (.inl fh))), (hT, .inl (cJ, 7, (.inr (.inl ft)))), (hM, .inl (cJ, 6, (.inr (.inl (fun _ => 0)))))] sz) := by
  refine Met.ofW (cc := cX10_hangSolids) (maxL := 3) (ret := none) (by decide) rfl ?_
  intro p e s m args below meth c s₁ B hml hv
  obtain ⟨rfl, hsz, hP, hK, hD0, hN0⟩ := hv
  have hx := B.exec
  have hb := B.bytes
  have hr := B.returns
  have hts := atoms_spec (ws := wsX10_hangSolids) B.pre
  have hown : s.vm.findClass RX10 = some m.cls := findClass_of_methodNamed B.named
  have hlocks := B.notSynchronized
  have hiX10 : ∀ w ∈ u_ws RX10 TX10 13, w ∈ wsX10_hangSolids := by decide +kernel
  subst hsz
  have hD := hD0.self (sz := s.heap.size)
  generalize hAe : va_A [(x0, .inr (10, [.ref xTape, .ref xReader, .ref xBag, .ref xBld, .ref xAng, .ref xSum, .ref xPik, .int 0, .ref xHan, .ref xIns, .ref xShr, .ref xSta, .ref xTur])), (xSum, .inr (8, [.ref sM, .ref sP, .ref sA, .int 0])), (xHan, .inr (3, [.int 0, .int 0, .int 0, .ref hH, .ref hR, .ref hT, .ref hM])), (hH, .inl (cI, 7, (.inl fh))), (hT, .inl (cJ, 7, (.inr (.inl ft)))), (hM, .inl (cJ, 6, (.inr (.inl (fun _ => 0)))))] s.heap.size = A at hD ⊢
  have hA : ∀ q : Nat, s.heap.size ≤ q → A q := fun q h => by rw [← hAe]; exact Or.inr h
  have hS : va_S A s.heap s.heap [] := va_S.rf
  have hP : va_P (dC, dI) vwCl [(x0, .inr (10, [.ref xTape, .ref xReader, .ref xBag, .ref xBld, .ref xAng, .ref xSum, .ref xPik, .int 0, .ref xHan, .ref xIns, .ref xShr, .ref xSta, .ref xTur])), (xSum, .inr (8, [.ref sM, .ref sP, .ref sA, .int 0])), (xHan, .inr (3, [.int 0, .int 0, .int 0, .ref hH, .ref hR, .ref hT, .ref hM])), (hH, .inl (cI, 7, (.inl fh))), (hT, .inl (cJ, 7, (.inr (.inl ft)))), (hM, .inl (cJ, 6, (.inr (.inl (fun _ => 0)))))] s.heap := hP
  have hl := lv_entry ([.ref x0, .int 8]) (n := 3) (Nat.le_of_ble_eq_true rfl)
  rw [lg_entry_eq]
  generalize (lg_sl ([.ref x0, .int 8]) ++ List.replicate (3 - (lg_sl ([.ref x0, .int 8])).length) Slot.unset).toArray = ls at hl ⊢
  have hl : lv_has ls 3 [(0, .ref x0), (1, .int 8)] := hl
  refine lv_aload_n hx hb dX10_hangSolids_0 rfl (lv_at hl 0 rfl) ?_
  refine va_get (D := (dC, dI)) (ci := 10) (v := .ref xHan) (C := RX10) (T := TX10) (N := 13) hx hb hts hiX10 hown hK hP 0 rfl rfl 8 (by decide) (hts (.fieldLink RX10 61 "ScissorsTable" "hang" "LScissorsTable$Hang;") (by decide +kernel)) (fun _ h9 => h9) rfl dX10_hangSolids_1 ?_
  have hPc := hP.sub (ws' := [(xHan, .inr (3, [.int 0, .int 0, .int 0, .ref hH, .ref hR, .ref hT, .ref hM]))]) [2] rfl
  have hDc := hD.sub (ws' := [(xHan, .inr (3, [.int 0, .int 0, .int 0, .ref hH, .ref hR, .ref hT, .ref hM]))]) [2] (by decide) rfl
  have hFc := va_free (wc := [(xHan, .inr (3, [.int 0, .int 0, .int 0, .ref hH, .ref hR, .ref hT, .ref hM]))]) hD hS hA [2] rfl
  refine va_callv (va_runV (As := []) (rest := []) ⟨hx, hb, hml, hown, hts⟩ (c_X3_begin l dC dI cB cI cJ s.heap.size xHan hH hR hT hM) (cwV 0 hts gX10_hangSolids_X3_begin rfl rfl rfl (by decide +kernel) ⟨Nat.le_of_ble_eq_true rfl, Nat.le_of_ble_eq_true rfl⟩) ⟨fun a U g mk q => by obtain ⟨q0, q1, qP, qK, qD⟩ := q; exact ⟨q0, q1, qP, va_K.moved (u := U) (U := U.calling g mk a) (Vm.Alike.refl U.vm) qK, qD⟩, va_recv hK hP (ci := 3) (q0 := 2) rfl rfl, fun U hU hW => ⟨rfl, by rw [hU], by rw [hU]; exact hPc, va_K.moved hW.alike hK, hDc.weaken (fun _ _ _ _ => trivial)⟩⟩ rfl rfl hl.1 rfl (lv_room (Nat.le_of_ble_eq_true rfl)) dX10_hangSolids_4 ⟨Nat.le_of_ble_eq_true rfl, Nat.le_of_ble_eq_true rfl⟩) hS (fun q _ h => hFc q h) hFc (fun u t H1 locs ht hvm hw hB hz1 hk1 hS => ?_)
  obtain ⟨hP1, hK1, hD1⟩ := hB
  rw [ht] at hP1
  obtain ⟨hP, hD⟩ := va_join (wr := [(x0, .inr (10, [.ref xTape, .ref xReader, .ref xBag, .ref xBld, .ref xAng, .ref xSum, .ref xPik, .int 0, .ref xHan, .ref xIns, .ref xShr, .ref xSta, .ref xTur])), (xSum, .inr (8, [.ref sM, .ref sP, .ref sA, .int 0])), (hH, .inl (cI, 7, (.inl fh))), (hT, .inl (cJ, 7, (.inr (.inl ft)))), (hM, .inl (cJ, 6, (.inr (.inl (fun _ => 0)))))]) (w1 := [(xHan, .inr (3, [.int 0, .int 0, .int 0, .ref hH, .ref hR, .ref hT, .ref hM]))]) hP hD [2] [0, 1, 3, 4, 5] rfl rfl (by decide) (by decide) hk1 hFc hP1 hD1
  generalize H1 = H at hP hS ⊢
  have hP : va_P (dC, dI) vwCl [(x0, .inr (10, [.ref xTape, .ref xReader, .ref xBag, .ref xBld, .ref xAng, .ref xSum, .ref xPik, .int 0, .ref xHan, .ref xIns, .ref xShr, .ref xSta, .ref xTur])), (xSum, .inr (8, [.ref sM, .ref sP, .ref sA, .int 0])), (hH, .inl (cI, 7, (.inl fh))), (hT, .inl (cJ, 7, (.inr (.inl ft)))), (hM, .inl (cJ, 6, (.inr (.inl (fun _ => 0))))), (xHan, .inr (3, [.int 0, .int 0, .int 0, .ref hH, .ref hR, .ref hT, .ref hM]))] H := hP
  have hD : va_D A [(x0, .inr (10, [.ref xTape, .ref xReader, .ref xBag, .ref xBld, .ref xAng, .ref xSum, .ref xPik, .int 0, .ref xHan, .ref xIns, .ref xShr, .ref xSta, .ref xTur])), (xSum, .inr (8, [.ref sM, .ref sP, .ref sA, .int 0])), (hH, .inl (cI, 7, (.inl fh))), (hT, .inl (cJ, 7, (.inr (.inl ft)))), (hM, .inl (cJ, 6, (.inr (.inl (fun _ => 0))))), (xHan, .inr (3, [.int 0, .int 0, .int 0, .ref hH, .ref hR, .ref hT, .ref hM]))] := hD
  refine lv_iconst (v := 0) hx hb dX10_hangSolids_7 (by decide) ?_
  refine lv_istore_n (lv' := [(2, .int 0), (0, .ref x0), (1, .int 8)]) hx hb dX10_hangSolids_8 rfl hl (by decide) rfl (fun ls hl => ?_)
  refine lv_iload_n hx hb dX10_hangSolids_9 rfl (lv_at hl 0 rfl) ?_
  refine lv_iconst (v := 4) hx hb dX10_hangSolids_10 (by decide) ?_
  refine lv_icmp_ge (tgt := 41) hx hb dX10_hangSolids_11 (by decide) (fun c => absurd c (by decide)) (fun _ => ?_)
  refine lv_iload_n hx hb dX10_hangSolids_14 rfl (lv_at hl 2 rfl) ?_
  refine lv_iload_n hx hb dX10_hangSolids_15 rfl (lv_at hl 0 rfl) ?_
  refine lv_ishr hx hb dX10_hangSolids_16 ?_
  refine lv_topi (fun x_1 ex_1 => ?_)
  obtain rfl : x_1 = 8 := ex_1.trans (by first | rfl | decide)
  refine lv_iconst (v := 1) hx hb dX10_hangSolids_17 (by decide) ?_
  refine lv_iand hx hb dX10_hangSolids_18 ?_
  refine lv_topi (fun x_2 ex_2 => ?_)
  obtain rfl : x_2 = 0 := ex_2.trans (by first | rfl | decide)
  refine lv_iconst (v := 1) hx hb dX10_hangSolids_19 (by decide) ?_
  refine lv_icmp_ne (tgt := 35) hx hb dX10_hangSolids_20 (by decide) (fun _ => ?_) (fun c => absurd c (by decide))
  refine lv_iinc (v := 1) (lv' := [(2, .int 1), (0, .ref x0), (1, .int 8)]) hx hb dX10_hangSolids_35 hl (k := 0) rfl (by decide) (by decide) rfl (fun ls hl => ?_)
  refine lv_goto (tgt := 9) hx hb dX10_hangSolids_38 (by decide) ?_
  refine lv_iload_n hx hb dX10_hangSolids_9 rfl (lv_at hl 0 rfl) ?_
  refine lv_iconst (v := 4) hx hb dX10_hangSolids_10 (by decide) ?_
  refine lv_icmp_ge (tgt := 41) hx hb dX10_hangSolids_11 (by decide) (fun c => absurd c (by decide)) (fun _ => ?_)
  refine lv_iload_n hx hb dX10_hangSolids_14 rfl (lv_at hl 2 rfl) ?_
  refine lv_iload_n hx hb dX10_hangSolids_15 rfl (lv_at hl 0 rfl) ?_
  refine lv_ishr hx hb dX10_hangSolids_16 ?_
  refine lv_topi (fun x_3 ex_3 => ?_)
  obtain rfl : x_3 = 4 := ex_3.trans (by first | rfl | decide)
  refine lv_iconst (v := 1) hx hb dX10_hangSolids_17 (by decide) ?_
  refine lv_iand hx hb dX10_hangSolids_18 ?_
  refine lv_topi (fun x_4 ex_4 => ?_)
  obtain rfl : x_4 = 0 := ex_4.trans (by first | rfl | decide)
  refine lv_iconst (v := 1) hx hb dX10_hangSolids_19 (by decide) ?_
  refine lv_icmp_ne (tgt := 35) hx hb dX10_hangSolids_20 (by decide) (fun _ => ?_) (fun c => absurd c (by decide))
  refine lv_iinc (v := 2) (lv' := [(2, .int 2), (0, .ref x0), (1, .int 8)]) hx hb dX10_hangSolids_35 hl (k := 0) rfl (by decide) (by decide) rfl (fun ls hl => ?_)
  refine lv_goto (tgt := 9) hx hb dX10_hangSolids_38 (by decide) ?_
  refine lv_iload_n hx hb dX10_hangSolids_9 rfl (lv_at hl 0 rfl) ?_
  refine lv_iconst (v := 4) hx hb dX10_hangSolids_10 (by decide) ?_
  refine lv_icmp_ge (tgt := 41) hx hb dX10_hangSolids_11 (by decide) (fun c => absurd c (by decide)) (fun _ => ?_)
  refine lv_iload_n hx hb dX10_hangSolids_14 rfl (lv_at hl 2 rfl) ?_
  refine lv_iload_n hx hb dX10_hangSolids_15 rfl (lv_at hl 0 rfl) ?_
  refine lv_ishr hx hb dX10_hangSolids_16 ?_
  refine lv_topi (fun x_5 ex_5 => ?_)
  obtain rfl : x_5 = 2 := ex_5.trans (by first | rfl | decide)
  refine lv_iconst (v := 1) hx hb dX10_hangSolids_17 (by decide) ?_
  refine lv_iand hx hb dX10_hangSolids_18 ?_
  refine lv_topi (fun x_6 ex_6 => ?_)
  obtain rfl : x_6 = 0 := ex_6.trans (by first | rfl | decide)
  refine lv_iconst (v := 1) hx hb dX10_hangSolids_19 (by decide) ?_
  refine lv_icmp_ne (tgt := 35) hx hb dX10_hangSolids_20 (by decide) (fun _ => ?_) (fun c => absurd c (by decide))
  refine lv_iinc (v := 3) (lv' := [(2, .int 3), (0, .ref x0), (1, .int 8)]) hx hb dX10_hangSolids_35 hl (k := 0) rfl (by decide) (by decide) rfl (fun ls hl => ?_)
  refine lv_goto (tgt := 9) hx hb dX10_hangSolids_38 (by decide) ?_
  refine lv_iload_n hx hb dX10_hangSolids_9 rfl (lv_at hl 0 rfl) ?_
  refine lv_iconst (v := 4) hx hb dX10_hangSolids_10 (by decide) ?_
  refine lv_icmp_ge (tgt := 41) hx hb dX10_hangSolids_11 (by decide) (fun c => absurd c (by decide)) (fun _ => ?_)
  refine lv_iload_n hx hb dX10_hangSolids_14 rfl (lv_at hl 2 rfl) ?_
  refine lv_iload_n hx hb dX10_hangSolids_15 rfl (lv_at hl 0 rfl) ?_
  refine lv_ishr hx hb dX10_hangSolids_16 ?_
  refine lv_topi (fun x_7 ex_7 => ?_)
  obtain rfl : x_7 = 1 := ex_7.trans (by first | rfl | decide)
  refine lv_iconst (v := 1) hx hb dX10_hangSolids_17 (by decide) ?_
  refine lv_iand hx hb dX10_hangSolids_18 ?_
  refine lv_topi (fun x_8 ex_8 => ?_)
  obtain rfl : x_8 = 1 := ex_8.trans (by first | rfl | decide)
  refine lv_iconst (v := 1) hx hb dX10_hangSolids_19 (by decide) ?_
  refine lv_icmp_ne (tgt := 35) hx hb dX10_hangSolids_20 (by decide) (fun c => absurd (by decide) c) (fun _ => ?_)
  refine lv_aload_n hx hb dX10_hangSolids_23 rfl (lv_at hl 1 rfl) ?_
  refine va_get (D := (dC, dI)) (ci := 10) (v := .ref xHan) (C := RX10) (T := TX10) (N := 13) hx hb hts hiX10 hown hK hP 0 rfl rfl 8 (by decide) (hts (.fieldLink RX10 61 "ScissorsTable" "hang" "LScissorsTable$Hang;") (by decide +kernel)) (fun _ h9 => h9) rfl dX10_hangSolids_24 ?_
  refine lv_aload_n hx hb dX10_hangSolids_27 rfl (lv_at hl 1 rfl) ?_
  refine va_get (D := (dC, dI)) (ci := 10) (v := .ref xSum) (C := RX10) (T := TX10) (N := 13) hx hb hts hiX10 hown hK hP 0 rfl rfl 5 (by decide) (hts (.fieldLink RX10 51 "ScissorsTable" "sums" "LScissorsTable$Sums;") (by decide +kernel)) (fun _ h9 => h9) rfl dX10_hangSolids_28 ?_
  refine lv_iload_n hx hb dX10_hangSolids_31 rfl (lv_at hl 0 rfl) ?_
  have hPc := hP.sub (ws' := [(xSum, .inr (8, [.ref sM, .ref sP, .ref sA, .int 0])), (xHan, .inr (3, [.int 0, .int 0, .int 0, .ref hH, .ref hR, .ref hT, .ref hM])), (hH, .inl (cI, 7, (.inl fh))), (hT, .inl (cJ, 7, (.inr (.inl ft)))), (hM, .inl (cJ, 6, (.inr (.inl (fun _ => 0)))))]) [1, 5, 2, 3, 4] rfl
  have hDc := hD.sub (ws' := [(xSum, .inr (8, [.ref sM, .ref sP, .ref sA, .int 0])), (xHan, .inr (3, [.int 0, .int 0, .int 0, .ref hH, .ref hR, .ref hT, .ref hM])), (hH, .inl (cI, 7, (.inl fh))), (hT, .inl (cJ, 7, (.inr (.inl ft)))), (hM, .inl (cJ, 6, (.inr (.inl (fun _ => 0)))))]) [1, 5, 2, 3, 4] (by decide) rfl
  have hFc := va_free (wc := [(xSum, .inr (8, [.ref sM, .ref sP, .ref sA, .int 0])), (xHan, .inr (3, [.int 0, .int 0, .int 0, .ref hH, .ref hR, .ref hT, .ref hM])), (hH, .inl (cI, 7, (.inl fh))), (hT, .inl (cJ, 7, (.inr (.inl ft)))), (hM, .inl (cJ, 6, (.inr (.inl (fun _ => 0)))))]) hD hS hA [1, 5, 2, 3, 4] rfl
  refine va_callv (va_runV (As := [.ref xSum, .int 3]) (rest := []) ⟨hx, hb, hml, hown, hts⟩ (c_X3_next_t0 l dC dI cB cI cJ H.size xSum sM sP sA xHan hH hR hT hM 3 fh ft) (cwV 2 hts gX10_hangSolids_X3_next rfl rfl rfl (by decide +kernel) ⟨Nat.le_of_ble_eq_true rfl, Nat.le_of_ble_eq_true rfl⟩) ⟨fun a U g mk q => by obtain ⟨q0, q1, qP, qK, qD, qN0⟩ := q; exact ⟨q0, q1, qP, va_K.moved (u := U) (U := U.calling g mk a) (Vm.Alike.refl U.vm) qK, qD, va_Nw.same rfl rfl qN0⟩, va_recv hK hP (ci := 3) (q0 := 5) rfl rfl, fun U hU hW => ⟨rfl, by rw [hU], by rw [hU]; exact hPc, va_K.moved hW.alike hK, hDc.weaken (fun _ _ _ _ => trivial), va_Nw.warmM hW hN0⟩⟩ rfl rfl hl.1 rfl (lv_room (Nat.le_of_ble_eq_true rfl)) dX10_hangSolids_32 ⟨Nat.le_of_ble_eq_true rfl, Nat.le_of_ble_eq_true rfl⟩) hS (fun q _ h => hFc q h) hFc (fun u t H1 locs ht hvm hw hB hz1 hk1 hS => ?_)
  obtain ⟨hP1, hK1, hD1⟩ := hB
  rw [ht] at hP1
  obtain ⟨hP, hD⟩ := va_join (wr := [(x0, .inr (10, [.ref xTape, .ref xReader, .ref xBag, .ref xBld, .ref xAng, .ref xSum, .ref xPik, .int 0, .ref xHan, .ref xIns, .ref xShr, .ref xSta, .ref xTur]))]) (w1 := [(xHan, .inr (3, [.int 0, .int 1, .int 1, .ref hH, .ref hR, .ref hT, .ref hM])), (xSum, .inr (8, [.ref sM, .ref sP, .ref sA, .int 0])), (hH, .inl (cI, 7, (.inl (upd fh (0 : Int32).toNatClampNeg 3)))), (hT, .inl (cJ, 7, (.inr (.inl (vp_updL ft (0 : Int32).toNatClampNeg 1))))), (hM, .inl (cJ, 6, (.inr (.inl (vp_updL (fun _ => 0) (0 : Int32).toNatClampNeg 1)))))]) hP hD [1, 5, 2, 3, 4] [0] rfl rfl (by decide) (by decide) hk1 hFc hP1 hD1
  generalize H1 = H at hP hS ⊢
  have hP : va_P (dC, dI) vwCl [(x0, .inr (10, [.ref xTape, .ref xReader, .ref xBag, .ref xBld, .ref xAng, .ref xSum, .ref xPik, .int 0, .ref xHan, .ref xIns, .ref xShr, .ref xSta, .ref xTur])), (xHan, .inr (3, [.int 0, .int 1, .int 1, .ref hH, .ref hR, .ref hT, .ref hM])), (xSum, .inr (8, [.ref sM, .ref sP, .ref sA, .int 0])), (hH, .inl (cI, 7, (.inl (upd fh (0 : Int32).toNatClampNeg 3)))), (hT, .inl (cJ, 7, (.inr (.inl (vp_updL ft (0 : Int32).toNatClampNeg 1))))), (hM, .inl (cJ, 6, (.inr (.inl (vp_updL (fun _ => 0) (0 : Int32).toNatClampNeg 1)))))] H := hP
  have hD : va_D A [(x0, .inr (10, [.ref xTape, .ref xReader, .ref xBag, .ref xBld, .ref xAng, .ref xSum, .ref xPik, .int 0, .ref xHan, .ref xIns, .ref xShr, .ref xSta, .ref xTur])), (xHan, .inr (3, [.int 0, .int 1, .int 1, .ref hH, .ref hR, .ref hT, .ref hM])), (xSum, .inr (8, [.ref sM, .ref sP, .ref sA, .int 0])), (hH, .inl (cI, 7, (.inl (upd fh (0 : Int32).toNatClampNeg 3)))), (hT, .inl (cJ, 7, (.inr (.inl (vp_updL ft (0 : Int32).toNatClampNeg 1))))), (hM, .inl (cJ, 6, (.inr (.inl (vp_updL (fun _ => 0) (0 : Int32).toNatClampNeg 1)))))] := hD
  refine lv_iinc (v := 4) (lv' := [(2, .int 4), (0, .ref x0), (1, .int 8)]) hx hb dX10_hangSolids_35 hl (k := 0) rfl (by decide) (by decide) rfl (fun ls hl => ?_)
  refine lv_goto (tgt := 9) hx hb dX10_hangSolids_38 (by decide) ?_
  refine lv_iload_n hx hb dX10_hangSolids_9 rfl (lv_at hl 0 rfl) ?_
  refine lv_iconst (v := 4) hx hb dX10_hangSolids_10 (by decide) ?_
  refine lv_icmp_ge (tgt := 41) hx hb dX10_hangSolids_11 (by decide) (fun _ => ?_) (fun c => absurd (by decide) c)
  have hP9 := hP.sub (ws' := [(x0, .inr (10, [.ref xTape, .ref xReader, .ref xBag, .ref xBld, .ref xAng, .ref xSum, .ref xPik, .int 0, .ref xHan, .ref xIns, .ref xShr, .ref xSta, .ref xTur])), (xHan, .inr (3, [.int 0, .int 1, .int 1, .ref hH, .ref hR, .ref hT, .ref hM])), (xSum, .inr (8, [.ref sM, .ref sP, .ref sA, .int 0])), (hH, .inl (cI, 7, (.inl (upd fh (0 : Int32).toNatClampNeg 3)))), (hT, .inl (cJ, 7, (.inr (.inl (vp_updL ft (0 : Int32).toNatClampNeg 1))))), (hM, .inl (cJ, 6, (.inr (.inl (vp_updL (fun _ => 0) (0 : Int32).toNatClampNeg 1)))))]) [0, 1, 2, 3, 4, 5] rfl
  have hD9 := hD.sub (ws' := [(x0, .inr (10, [.ref xTape, .ref xReader, .ref xBag, .ref xBld, .ref xAng, .ref xSum, .ref xPik, .int 0, .ref xHan, .ref xIns, .ref xShr, .ref xSta, .ref xTur])), (xHan, .inr (3, [.int 0, .int 1, .int 1, .ref hH, .ref hR, .ref hT, .ref hM])), (xSum, .inr (8, [.ref sM, .ref sP, .ref sA, .int 0])), (hH, .inl (cI, 7, (.inl (upd fh (0 : Int32).toNatClampNeg 3)))), (hT, .inl (cJ, 7, (.inr (.inl (vp_updL ft (0 : Int32).toNatClampNeg 1))))), (hM, .inl (cJ, 6, (.inr (.inl (vp_updL (fun _ => 0) (0 : Int32).toNatClampNeg 1)))))]) [0, 1, 2, 3, 4, 5] (by decide) rfl
  refine W.widen (k := 0) (n := 0) (Nat.le_of_ble_eq_true rfl) (Nat.le_of_ble_eq_true rfl) ?_
  exact W.vret hx hb hr (fun t ht hW => ⟨⟨(), rfl, trivial, by rw [ht]; exact hP9, va_K.moved hW.alike hK, hD9⟩, hS.F ht⟩) hS.2.2 dX10_hangSolids_41
set_option maxHeartbeats 4000000 in
set_option maxRecDepth 100000 in
theorem c_X10_hangSolids_9 (l : Launch) (dC : Nat → ClassId) (dI : Nat → Nat → Nat) (cB cI cJ : ClassId) (sz : Nat) (x0 xTape xReader xBag xBld xAng xSum xPik xHan xIns xShr xSta xTur sM sP sA hH hR hT hM : Nat) (fh : Nat → Int32) (ft : Nat → Int64) : Met l yX10_hangSolids wsX10_hangSolids ({ frames := 5, cells := 0, slots := 0, locals := 118 }) (va_Pc [.ref x0, .int 9] (fun U => U.heap.size = sz ∧ va_P (dC, dI) vwCl [(x0, .inr (10, [.ref xTape, .ref xReader, .ref xBag, .ref xBld, .ref xAng, .ref xSum, .ref xPik, .int 0, .ref xHan, .ref xIns, .ref xShr, .ref xSta, .ref xTur])), (xSum, .inr (8, [.ref sM, .ref sP, .ref sA, .int 0])), (xHan, .inr (3, [.int 0, .int 0, .int 0, .ref hH, .ref hR, .ref hT, .ref hM])), (hH, .inl (cI, 7, (.inl fh))), (hT, .inl (cJ, 7, (.inr (.inl ft)))), (hM, .inl (cJ, 6, (.inr (.inl (fun _ => 0)))))] U.heap ∧ va_K (dC, dI) vwCl [(cB, .byte), (cI, .int), (cJ, .long)] U ∧ va_D (fun _ => True) [(x0, .inr (10, [.ref xTape, .ref xReader, .ref xBag, .ref xBld, .ref xAng, .ref xSum, .ref xPik, .int 0, .ref xHan, .ref xIns, .ref xShr, .ref xSta, .ref xTur])), (xSum, .inr (8, [.ref sM, .ref sP, .ref sA, .int 0])), (xHan, .inr (3, [.int 0, .int 0, .int 0, .ref hH, .ref hR, .ref hT, .ref hM])), (hH, .inl (cI, 7, (.inl fh))), (hT, .inl (cJ, 7, (.inr (.inl ft)))), (hM, .inl (cJ, 6, (.inr (.inl (fun _ => 0)))))] ∧ va_Nw (.methodLinkNest RX3 62 yX10_gcd "ScissorsTable") U)) (va_Qv (fun _ : Unit => True) (fun _ t => va_P (dC, dI) vwCl [(x0, .inr (10, [.ref xTape, .ref xReader, .ref xBag, .ref xBld, .ref xAng, .ref xSum, .ref xPik, .int 0, .ref xHan, .ref xIns, .ref xShr, .ref xSta, .ref xTur])), (xHan, .inr (3, [.int 0, .int 2, .int 1, .ref hH, .ref hR, .ref hT, .ref hM])), (xSum, .inr (8, [.ref sM, .ref sP, .ref sA, .int 0])), (hH, .inl (cI, 7, (.inl (upd (upd fh (0 : Int32).toNatClampNeg 0) (0 : Int32).toNatClampNeg 3)))), (hT, .inl (cJ, 7, (.inr (.inl (vp_updL (vp_updL ft (0 : Int32).toNatClampNeg 1) (0 : Int32).toNatClampNeg 1))))), (hM, .inl (cJ, 6, (.inr (.inl (vp_updL (fun _ => 0) (0 : Int32).toNatClampNeg 1)))))] t.heap ∧ va_K (dC, dI) vwCl [(cB, .byte), (cI, .int), (cJ, .long)] t ∧ va_D (va_A [(x0, .inr (10, [.ref xTape, .ref xReader, .ref xBag, .ref xBld, .ref xAng, .ref xSum, .ref xPik, .int 0, .ref xHan, .ref xIns, .ref xShr, .ref xSta, .ref xTur])), (xSum, .inr (8, [.ref sM, .ref sP, .ref sA, .int 0])), (xHan, .inr (3, [.int 0, .int 0, .int 0, .ref hH, .ref hR, .ref hT, .ref hM])), (hH, .inl (cI, 7, (.inl fh))), (hT, .inl (cJ, 7, (.inr (.inl ft)))), (hM, .inl (cJ, 6, (.inr (.inl (fun _ => 0)))))] sz) [(x0, .inr (10, [.ref xTape, .ref xReader, .ref xBag, .ref xBld, .ref xAng, .ref xSum, .ref xPik, .int 0, .ref xHan, .ref xIns, .ref xShr, .ref xSta, .ref xTur])), (xHan, .inr (3, [.int 0, .int 2, .int 1, .ref hH, .ref hR, .ref hT, .ref hM])), (xSum, .inr (8, [.ref sM, .ref sP, .ref sA, .int 0])), (hH, .inl (cI, 7, (.inl (upd (upd fh (0 : Int32).toNatClampNeg 0) (0 : Int32).toNatClampNeg 3)))), (hT, .inl (cJ, 7, (.inr (.inl (vp_updL (vp_updL ft (0 : Int32).toNatClampNeg 1) (0 : Int32).toNatClampNeg 1))))), (hM, .inl (cJ, 6, (.inr (.inl (vp_updL (fun _ => 0) (0 : Int32).toNatClampNeg 1)))))]) (va_A [(x0, .inr (10, [.ref xTape, .ref xReader, .ref xBag, .ref xBld, .ref xAng, .ref xSum, .ref xPik, .int 0, .ref xHan, .ref xIns, .ref xShr, .ref xSta, .ref xTur])), (xSum, .inr (8, [.ref sM, .ref sP, .ref sA, .int 0])), (xHan, .inr (3, [.int 0, .int 0, .int 0, .ref hH, .ref hR, .ref hT, .ref hM])), (hH, .inl (cI, 7, (.inl fh))), (hT, .inl (cJ, 7, (.inr (.inl ft)))), (hM, .inl (cJ, 6, (.inr (.inl (fun _ => 0)))))] sz)) 0 0 (va_A [(x0, .inr (10, [.ref xTape, .ref xReader, .ref xBag, .ref xBld, .ref xAng, .ref xSum, .ref xPik, .int 0, .ref xHan, .ref xIns, .ref xShr, .ref xSta, .ref xTur])), (xSum, .inr (8, [.ref sM, .ref sP, .ref sA, .int 0])), (xHan, .inr (3, [.int 0, .int 0, .int 0, .ref hH, .ref hR, .ref hT, .ref hM])), (hH, .inl (cI, 7, (.inl fh))), (hT, .inl (cJ, 7, (.inr (.inl ft)))), (hM, .inl (cJ, 6, (.inr (.inl (fun _ => 0)))))] sz) := by
  refine Met.ofW (cc := cX10_hangSolids) (maxL := 3) (ret := none) (by decide) rfl ?_
  intro p e s m args below meth c s₁ B hml hv
  obtain ⟨rfl, hsz, hP, hK, hD0, hN0⟩ := hv
  have hx := B.exec
  have hb := B.bytes
  have hr := B.returns
  have hts := atoms_spec (ws := wsX10_hangSolids) B.pre
  have hown : s.vm.findClass RX10 = some m.cls := findClass_of_methodNamed B.named
  have hlocks := B.notSynchronized
  have hiX10 : ∀ w ∈ u_ws RX10 TX10 13, w ∈ wsX10_hangSolids := by decide +kernel
  subst hsz
  have hD := hD0.self (sz := s.heap.size)
  generalize hAe : va_A [(x0, .inr (10, [.ref xTape, .ref xReader, .ref xBag, .ref xBld, .ref xAng, .ref xSum, .ref xPik, .int 0, .ref xHan, .ref xIns, .ref xShr, .ref xSta, .ref xTur])), (xSum, .inr (8, [.ref sM, .ref sP, .ref sA, .int 0])), (xHan, .inr (3, [.int 0, .int 0, .int 0, .ref hH, .ref hR, .ref hT, .ref hM])), (hH, .inl (cI, 7, (.inl fh))), (hT, .inl (cJ, 7, (.inr (.inl ft)))), (hM, .inl (cJ, 6, (.inr (.inl (fun _ => 0)))))] s.heap.size = A at hD ⊢
  have hA : ∀ q : Nat, s.heap.size ≤ q → A q := fun q h => by rw [← hAe]; exact Or.inr h
  have hS : va_S A s.heap s.heap [] := va_S.rf
  have hP : va_P (dC, dI) vwCl [(x0, .inr (10, [.ref xTape, .ref xReader, .ref xBag, .ref xBld, .ref xAng, .ref xSum, .ref xPik, .int 0, .ref xHan, .ref xIns, .ref xShr, .ref xSta, .ref xTur])), (xSum, .inr (8, [.ref sM, .ref sP, .ref sA, .int 0])), (xHan, .inr (3, [.int 0, .int 0, .int 0, .ref hH, .ref hR, .ref hT, .ref hM])), (hH, .inl (cI, 7, (.inl fh))), (hT, .inl (cJ, 7, (.inr (.inl ft)))), (hM, .inl (cJ, 6, (.inr (.inl (fun _ => 0)))))] s.heap := hP
  have hl := lv_entry ([.ref x0, .int 9]) (n := 3) (Nat.le_of_ble_eq_true rfl)
  rw [lg_entry_eq]
  generalize (lg_sl ([.ref x0, .int 9]) ++ List.replicate (3 - (lg_sl ([.ref x0, .int 9])).length) Slot.unset).toArray = ls at hl ⊢
  have hl : lv_has ls 3 [(0, .ref x0), (1, .int 9)] := hl
  refine lv_aload_n hx hb dX10_hangSolids_0 rfl (lv_at hl 0 rfl) ?_
  refine va_get (D := (dC, dI)) (ci := 10) (v := .ref xHan) (C := RX10) (T := TX10) (N := 13) hx hb hts hiX10 hown hK hP 0 rfl rfl 8 (by decide) (hts (.fieldLink RX10 61 "ScissorsTable" "hang" "LScissorsTable$Hang;") (by decide +kernel)) (fun _ h9 => h9) rfl dX10_hangSolids_1 ?_
  have hPc := hP.sub (ws' := [(xHan, .inr (3, [.int 0, .int 0, .int 0, .ref hH, .ref hR, .ref hT, .ref hM]))]) [2] rfl
  have hDc := hD.sub (ws' := [(xHan, .inr (3, [.int 0, .int 0, .int 0, .ref hH, .ref hR, .ref hT, .ref hM]))]) [2] (by decide) rfl
  have hFc := va_free (wc := [(xHan, .inr (3, [.int 0, .int 0, .int 0, .ref hH, .ref hR, .ref hT, .ref hM]))]) hD hS hA [2] rfl
  refine va_callv (va_runV (As := []) (rest := []) ⟨hx, hb, hml, hown, hts⟩ (c_X3_begin l dC dI cB cI cJ s.heap.size xHan hH hR hT hM) (cwV 0 hts gX10_hangSolids_X3_begin rfl rfl rfl (by decide +kernel) ⟨Nat.le_of_ble_eq_true rfl, Nat.le_of_ble_eq_true rfl⟩) ⟨fun a U g mk q => by obtain ⟨q0, q1, qP, qK, qD⟩ := q; exact ⟨q0, q1, qP, va_K.moved (u := U) (U := U.calling g mk a) (Vm.Alike.refl U.vm) qK, qD⟩, va_recv hK hP (ci := 3) (q0 := 2) rfl rfl, fun U hU hW => ⟨rfl, by rw [hU], by rw [hU]; exact hPc, va_K.moved hW.alike hK, hDc.weaken (fun _ _ _ _ => trivial)⟩⟩ rfl rfl hl.1 rfl (lv_room (Nat.le_of_ble_eq_true rfl)) dX10_hangSolids_4 ⟨Nat.le_of_ble_eq_true rfl, Nat.le_of_ble_eq_true rfl⟩) hS (fun q _ h => hFc q h) hFc (fun u t H1 locs ht hvm hw hB hz1 hk1 hS => ?_)
  obtain ⟨hP1, hK1, hD1⟩ := hB
  rw [ht] at hP1
  obtain ⟨hP, hD⟩ := va_join (wr := [(x0, .inr (10, [.ref xTape, .ref xReader, .ref xBag, .ref xBld, .ref xAng, .ref xSum, .ref xPik, .int 0, .ref xHan, .ref xIns, .ref xShr, .ref xSta, .ref xTur])), (xSum, .inr (8, [.ref sM, .ref sP, .ref sA, .int 0])), (hH, .inl (cI, 7, (.inl fh))), (hT, .inl (cJ, 7, (.inr (.inl ft)))), (hM, .inl (cJ, 6, (.inr (.inl (fun _ => 0)))))]) (w1 := [(xHan, .inr (3, [.int 0, .int 0, .int 0, .ref hH, .ref hR, .ref hT, .ref hM]))]) hP hD [2] [0, 1, 3, 4, 5] rfl rfl (by decide) (by decide) hk1 hFc hP1 hD1
  generalize H1 = H at hP hS ⊢
  have hP : va_P (dC, dI) vwCl [(x0, .inr (10, [.ref xTape, .ref xReader, .ref xBag, .ref xBld, .ref xAng, .ref xSum, .ref xPik, .int 0, .ref xHan, .ref xIns, .ref xShr, .ref xSta, .ref xTur])), (xSum, .inr (8, [.ref sM, .ref sP, .ref sA, .int 0])), (hH, .inl (cI, 7, (.inl fh))), (hT, .inl (cJ, 7, (.inr (.inl ft)))), (hM, .inl (cJ, 6, (.inr (.inl (fun _ => 0))))), (xHan, .inr (3, [.int 0, .int 0, .int 0, .ref hH, .ref hR, .ref hT, .ref hM]))] H := hP
  have hD : va_D A [(x0, .inr (10, [.ref xTape, .ref xReader, .ref xBag, .ref xBld, .ref xAng, .ref xSum, .ref xPik, .int 0, .ref xHan, .ref xIns, .ref xShr, .ref xSta, .ref xTur])), (xSum, .inr (8, [.ref sM, .ref sP, .ref sA, .int 0])), (hH, .inl (cI, 7, (.inl fh))), (hT, .inl (cJ, 7, (.inr (.inl ft)))), (hM, .inl (cJ, 6, (.inr (.inl (fun _ => 0))))), (xHan, .inr (3, [.int 0, .int 0, .int 0, .ref hH, .ref hR, .ref hT, .ref hM]))] := hD
  refine lv_iconst (v := 0) hx hb dX10_hangSolids_7 (by decide) ?_
  refine lv_istore_n (lv' := [(2, .int 0), (0, .ref x0), (1, .int 9)]) hx hb dX10_hangSolids_8 rfl hl (by decide) rfl (fun ls hl => ?_)
  refine lv_iload_n hx hb dX10_hangSolids_9 rfl (lv_at hl 0 rfl) ?_
  refine lv_iconst (v := 4) hx hb dX10_hangSolids_10 (by decide) ?_
  refine lv_icmp_ge (tgt := 41) hx hb dX10_hangSolids_11 (by decide) (fun c => absurd c (by decide)) (fun _ => ?_)
  refine lv_iload_n hx hb dX10_hangSolids_14 rfl (lv_at hl 2 rfl) ?_
  refine lv_iload_n hx hb dX10_hangSolids_15 rfl (lv_at hl 0 rfl) ?_
  refine lv_ishr hx hb dX10_hangSolids_16 ?_
  refine lv_topi (fun x_1 ex_1 => ?_)
  obtain rfl : x_1 = 9 := ex_1.trans (by first | rfl | decide)
  refine lv_iconst (v := 1) hx hb dX10_hangSolids_17 (by decide) ?_
  refine lv_iand hx hb dX10_hangSolids_18 ?_
  refine lv_topi (fun x_2 ex_2 => ?_)
  obtain rfl : x_2 = 1 := ex_2.trans (by first | rfl | decide)
  refine lv_iconst (v := 1) hx hb dX10_hangSolids_19 (by decide) ?_
  refine lv_icmp_ne (tgt := 35) hx hb dX10_hangSolids_20 (by decide) (fun c => absurd (by decide) c) (fun _ => ?_)
  refine lv_aload_n hx hb dX10_hangSolids_23 rfl (lv_at hl 1 rfl) ?_
  refine va_get (D := (dC, dI)) (ci := 10) (v := .ref xHan) (C := RX10) (T := TX10) (N := 13) hx hb hts hiX10 hown hK hP 0 rfl rfl 8 (by decide) (hts (.fieldLink RX10 61 "ScissorsTable" "hang" "LScissorsTable$Hang;") (by decide +kernel)) (fun _ h9 => h9) rfl dX10_hangSolids_24 ?_
  refine lv_aload_n hx hb dX10_hangSolids_27 rfl (lv_at hl 1 rfl) ?_
  refine va_get (D := (dC, dI)) (ci := 10) (v := .ref xSum) (C := RX10) (T := TX10) (N := 13) hx hb hts hiX10 hown hK hP 0 rfl rfl 5 (by decide) (hts (.fieldLink RX10 51 "ScissorsTable" "sums" "LScissorsTable$Sums;") (by decide +kernel)) (fun _ h9 => h9) rfl dX10_hangSolids_28 ?_
  refine lv_iload_n hx hb dX10_hangSolids_31 rfl (lv_at hl 0 rfl) ?_
  have hPc := hP.sub (ws' := [(xSum, .inr (8, [.ref sM, .ref sP, .ref sA, .int 0])), (xHan, .inr (3, [.int 0, .int 0, .int 0, .ref hH, .ref hR, .ref hT, .ref hM])), (hH, .inl (cI, 7, (.inl fh))), (hT, .inl (cJ, 7, (.inr (.inl ft)))), (hM, .inl (cJ, 6, (.inr (.inl (fun _ => 0)))))]) [1, 5, 2, 3, 4] rfl
  have hDc := hD.sub (ws' := [(xSum, .inr (8, [.ref sM, .ref sP, .ref sA, .int 0])), (xHan, .inr (3, [.int 0, .int 0, .int 0, .ref hH, .ref hR, .ref hT, .ref hM])), (hH, .inl (cI, 7, (.inl fh))), (hT, .inl (cJ, 7, (.inr (.inl ft)))), (hM, .inl (cJ, 6, (.inr (.inl (fun _ => 0)))))]) [1, 5, 2, 3, 4] (by decide) rfl
  have hFc := va_free (wc := [(xSum, .inr (8, [.ref sM, .ref sP, .ref sA, .int 0])), (xHan, .inr (3, [.int 0, .int 0, .int 0, .ref hH, .ref hR, .ref hT, .ref hM])), (hH, .inl (cI, 7, (.inl fh))), (hT, .inl (cJ, 7, (.inr (.inl ft)))), (hM, .inl (cJ, 6, (.inr (.inl (fun _ => 0)))))]) hD hS hA [1, 5, 2, 3, 4] rfl
  refine va_callv (va_runV (As := [.ref xSum, .int 0]) (rest := []) ⟨hx, hb, hml, hown, hts⟩ (c_X3_next_t0 l dC dI cB cI cJ H.size xSum sM sP sA xHan hH hR hT hM 0 fh ft) (cwV 2 hts gX10_hangSolids_X3_next rfl rfl rfl (by decide +kernel) ⟨Nat.le_of_ble_eq_true rfl, Nat.le_of_ble_eq_true rfl⟩) ⟨fun a U g mk q => by obtain ⟨q0, q1, qP, qK, qD, qN0⟩ := q; exact ⟨q0, q1, qP, va_K.moved (u := U) (U := U.calling g mk a) (Vm.Alike.refl U.vm) qK, qD, va_Nw.same rfl rfl qN0⟩, va_recv hK hP (ci := 3) (q0 := 5) rfl rfl, fun U hU hW => ⟨rfl, by rw [hU], by rw [hU]; exact hPc, va_K.moved hW.alike hK, hDc.weaken (fun _ _ _ _ => trivial), va_Nw.warmM hW hN0⟩⟩ rfl rfl hl.1 rfl (lv_room (Nat.le_of_ble_eq_true rfl)) dX10_hangSolids_32 ⟨Nat.le_of_ble_eq_true rfl, Nat.le_of_ble_eq_true rfl⟩) hS (fun q _ h => hFc q h) hFc (fun u t H1 locs ht hvm hw hB hz1 hk1 hS => ?_)
  obtain ⟨hP1, hK1, hD1⟩ := hB
  rw [ht] at hP1
  obtain ⟨hP, hD⟩ := va_join (wr := [(x0, .inr (10, [.ref xTape, .ref xReader, .ref xBag, .ref xBld, .ref xAng, .ref xSum, .ref xPik, .int 0, .ref xHan, .ref xIns, .ref xShr, .ref xSta, .ref xTur]))]) (w1 := [(xHan, .inr (3, [.int 0, .int 1, .int 1, .ref hH, .ref hR, .ref hT, .ref hM])), (xSum, .inr (8, [.ref sM, .ref sP, .ref sA, .int 0])), (hH, .inl (cI, 7, (.inl (upd fh (0 : Int32).toNatClampNeg 0)))), (hT, .inl (cJ, 7, (.inr (.inl (vp_updL ft (0 : Int32).toNatClampNeg 1))))), (hM, .inl (cJ, 6, (.inr (.inl (vp_updL (fun _ => 0) (0 : Int32).toNatClampNeg 1)))))]) hP hD [1, 5, 2, 3, 4] [0] rfl rfl (by decide) (by decide) hk1 hFc hP1 hD1
  generalize H1 = H at hP hS ⊢
  have hP : va_P (dC, dI) vwCl [(x0, .inr (10, [.ref xTape, .ref xReader, .ref xBag, .ref xBld, .ref xAng, .ref xSum, .ref xPik, .int 0, .ref xHan, .ref xIns, .ref xShr, .ref xSta, .ref xTur])), (xHan, .inr (3, [.int 0, .int 1, .int 1, .ref hH, .ref hR, .ref hT, .ref hM])), (xSum, .inr (8, [.ref sM, .ref sP, .ref sA, .int 0])), (hH, .inl (cI, 7, (.inl (upd fh (0 : Int32).toNatClampNeg 0)))), (hT, .inl (cJ, 7, (.inr (.inl (vp_updL ft (0 : Int32).toNatClampNeg 1))))), (hM, .inl (cJ, 6, (.inr (.inl (vp_updL (fun _ => 0) (0 : Int32).toNatClampNeg 1)))))] H := hP
  have hD : va_D A [(x0, .inr (10, [.ref xTape, .ref xReader, .ref xBag, .ref xBld, .ref xAng, .ref xSum, .ref xPik, .int 0, .ref xHan, .ref xIns, .ref xShr, .ref xSta, .ref xTur])), (xHan, .inr (3, [.int 0, .int 1, .int 1, .ref hH, .ref hR, .ref hT, .ref hM])), (xSum, .inr (8, [.ref sM, .ref sP, .ref sA, .int 0])), (hH, .inl (cI, 7, (.inl (upd fh (0 : Int32).toNatClampNeg 0)))), (hT, .inl (cJ, 7, (.inr (.inl (vp_updL ft (0 : Int32).toNatClampNeg 1))))), (hM, .inl (cJ, 6, (.inr (.inl (vp_updL (fun _ => 0) (0 : Int32).toNatClampNeg 1)))))] := hD
  refine lv_iinc (v := 1) (lv' := [(2, .int 1), (0, .ref x0), (1, .int 9)]) hx hb dX10_hangSolids_35 hl (k := 0) rfl (by decide) (by decide) rfl (fun ls hl => ?_)
  refine lv_goto (tgt := 9) hx hb dX10_hangSolids_38 (by decide) ?_
  refine lv_iload_n hx hb dX10_hangSolids_9 rfl (lv_at hl 0 rfl) ?_
  refine lv_iconst (v := 4) hx hb dX10_hangSolids_10 (by decide) ?_
  refine lv_icmp_ge (tgt := 41) hx hb dX10_hangSolids_11 (by decide) (fun c => absurd c (by decide)) (fun _ => ?_)
  refine lv_iload_n hx hb dX10_hangSolids_14 rfl (lv_at hl 2 rfl) ?_
  refine lv_iload_n hx hb dX10_hangSolids_15 rfl (lv_at hl 0 rfl) ?_
  refine lv_ishr hx hb dX10_hangSolids_16 ?_
  refine lv_topi (fun x_3 ex_3 => ?_)
  obtain rfl : x_3 = 4 := ex_3.trans (by first | rfl | decide)
  refine lv_iconst (v := 1) hx hb dX10_hangSolids_17 (by decide) ?_
  refine lv_iand hx hb dX10_hangSolids_18 ?_
  refine lv_topi (fun x_4 ex_4 => ?_)
  obtain rfl : x_4 = 0 := ex_4.trans (by first | rfl | decide)
  refine lv_iconst (v := 1) hx hb dX10_hangSolids_19 (by decide) ?_
  refine lv_icmp_ne (tgt := 35) hx hb dX10_hangSolids_20 (by decide) (fun _ => ?_) (fun c => absurd c (by decide))
  refine lv_iinc (v := 2) (lv' := [(2, .int 2), (0, .ref x0), (1, .int 9)]) hx hb dX10_hangSolids_35 hl (k := 0) rfl (by decide) (by decide) rfl (fun ls hl => ?_)
  refine lv_goto (tgt := 9) hx hb dX10_hangSolids_38 (by decide) ?_
  refine lv_iload_n hx hb dX10_hangSolids_9 rfl (lv_at hl 0 rfl) ?_
  refine lv_iconst (v := 4) hx hb dX10_hangSolids_10 (by decide) ?_
  refine lv_icmp_ge (tgt := 41) hx hb dX10_hangSolids_11 (by decide) (fun c => absurd c (by decide)) (fun _ => ?_)
  refine lv_iload_n hx hb dX10_hangSolids_14 rfl (lv_at hl 2 rfl) ?_
  refine lv_iload_n hx hb dX10_hangSolids_15 rfl (lv_at hl 0 rfl) ?_
  refine lv_ishr hx hb dX10_hangSolids_16 ?_
  refine lv_topi (fun x_5 ex_5 => ?_)
  obtain rfl : x_5 = 2 := ex_5.trans (by first | rfl | decide)
  refine lv_iconst (v := 1) hx hb dX10_hangSolids_17 (by decide) ?_
  refine lv_iand hx hb dX10_hangSolids_18 ?_
  refine lv_topi (fun x_6 ex_6 => ?_)
  obtain rfl : x_6 = 0 := ex_6.trans (by first | rfl | decide)
  refine lv_iconst (v := 1) hx hb dX10_hangSolids_19 (by decide) ?_
  refine lv_icmp_ne (tgt := 35) hx hb dX10_hangSolids_20 (by decide) (fun _ => ?_) (fun c => absurd c (by decide))
  refine lv_iinc (v := 3) (lv' := [(2, .int 3), (0, .ref x0), (1, .int 9)]) hx hb dX10_hangSolids_35 hl (k := 0) rfl (by decide) (by decide) rfl (fun ls hl => ?_)
  refine lv_goto (tgt := 9) hx hb dX10_hangSolids_38 (by decide) ?_
  refine lv_iload_n hx hb dX10_hangSolids_9 rfl (lv_at hl 0 rfl) ?_
  refine lv_iconst (v := 4) hx hb dX10_hangSolids_10 (by decide) ?_
  refine lv_icmp_ge (tgt := 41) hx hb dX10_hangSolids_11 (by decide) (fun c => absurd c (by decide)) (fun _ => ?_)
  refine lv_iload_n hx hb dX10_hangSolids_14 rfl (lv_at hl 2 rfl) ?_
  refine lv_iload_n hx hb dX10_hangSolids_15 rfl (lv_at hl 0 rfl) ?_
  refine lv_ishr hx hb dX10_hangSolids_16 ?_
  refine lv_topi (fun x_7 ex_7 => ?_)
  obtain rfl : x_7 = 1 := ex_7.trans (by first | rfl | decide)
  refine lv_iconst (v := 1) hx hb dX10_hangSolids_17 (by decide) ?_
  refine lv_iand hx hb dX10_hangSolids_18 ?_
  refine lv_topi (fun x_8 ex_8 => ?_)
  obtain rfl : x_8 = 1 := ex_8.trans (by first | rfl | decide)
  refine lv_iconst (v := 1) hx hb dX10_hangSolids_19 (by decide) ?_
  refine lv_icmp_ne (tgt := 35) hx hb dX10_hangSolids_20 (by decide) (fun c => absurd (by decide) c) (fun _ => ?_)
  refine lv_aload_n hx hb dX10_hangSolids_23 rfl (lv_at hl 1 rfl) ?_
  refine va_get (D := (dC, dI)) (ci := 10) (v := .ref xHan) (C := RX10) (T := TX10) (N := 13) hx hb hts hiX10 hown hK hP 0 rfl rfl 8 (by decide) (hts (.fieldLink RX10 61 "ScissorsTable" "hang" "LScissorsTable$Hang;") (by decide +kernel)) (fun _ h9 => h9) rfl dX10_hangSolids_24 ?_
  refine lv_aload_n hx hb dX10_hangSolids_27 rfl (lv_at hl 1 rfl) ?_
  refine va_get (D := (dC, dI)) (ci := 10) (v := .ref xSum) (C := RX10) (T := TX10) (N := 13) hx hb hts hiX10 hown hK hP 0 rfl rfl 5 (by decide) (hts (.fieldLink RX10 51 "ScissorsTable" "sums" "LScissorsTable$Sums;") (by decide +kernel)) (fun _ h9 => h9) rfl dX10_hangSolids_28 ?_
  refine lv_iload_n hx hb dX10_hangSolids_31 rfl (lv_at hl 0 rfl) ?_
  have hPc := hP.sub (ws' := [(xSum, .inr (8, [.ref sM, .ref sP, .ref sA, .int 0])), (xHan, .inr (3, [.int 0, .int 1, .int 1, .ref hH, .ref hR, .ref hT, .ref hM])), (hH, .inl (cI, 7, (.inl (upd fh (0 : Int32).toNatClampNeg 0)))), (hT, .inl (cJ, 7, (.inr (.inl (vp_updL ft (0 : Int32).toNatClampNeg 1)))))]) [2, 1, 3, 4] rfl
  have hDc := hD.sub (ws' := [(xSum, .inr (8, [.ref sM, .ref sP, .ref sA, .int 0])), (xHan, .inr (3, [.int 0, .int 1, .int 1, .ref hH, .ref hR, .ref hT, .ref hM])), (hH, .inl (cI, 7, (.inl (upd fh (0 : Int32).toNatClampNeg 0)))), (hT, .inl (cJ, 7, (.inr (.inl (vp_updL ft (0 : Int32).toNatClampNeg 1)))))]) [2, 1, 3, 4] (by decide) rfl
  have hFc := va_free (wc := [(xSum, .inr (8, [.ref sM, .ref sP, .ref sA, .int 0])), (xHan, .inr (3, [.int 0, .int 1, .int 1, .ref hH, .ref hR, .ref hT, .ref hM])), (hH, .inl (cI, 7, (.inl (upd fh (0 : Int32).toNatClampNeg 0)))), (hT, .inl (cJ, 7, (.inr (.inl (vp_updL ft (0 : Int32).toNatClampNeg 1)))))]) hD hS hA [2, 1, 3, 4] rfl
  refine va_callv (va_runV (As := [.ref xSum, .int 3]) (rest := []) ⟨hx, hb, hml, hown, hts⟩ (c_X3_next_t1 l dC dI cB cI cJ H.size xSum sM sP sA xHan hH hR hT hM 3 (upd fh (0 : Int32).toNatClampNeg 0) (vp_updL ft (0 : Int32).toNatClampNeg 1)) (cwV 2 hts gX10_hangSolids_X3_next rfl rfl rfl (by decide +kernel) ⟨Nat.le_of_ble_eq_true rfl, Nat.le_of_ble_eq_true rfl⟩) ⟨fun a U g mk q => by obtain ⟨q0, q1, qP, qK, qD⟩ := q; exact ⟨q0, q1, qP, va_K.moved (u := U) (U := U.calling g mk a) (Vm.Alike.refl U.vm) qK, qD⟩, va_recv hK hP (ci := 3) (q0 := 1) rfl rfl, fun U hU hW => ⟨rfl, by rw [hU], by rw [hU]; exact hPc, va_K.moved hW.alike hK, hDc.weaken (fun _ _ _ _ => trivial)⟩⟩ rfl rfl hl.1 rfl (lv_room (Nat.le_of_ble_eq_true rfl)) dX10_hangSolids_32 ⟨Nat.le_of_ble_eq_true rfl, Nat.le_of_ble_eq_true rfl⟩) hS (fun q _ h => hFc q h) hFc (fun u t H1 locs ht hvm hw hB hz1 hk1 hS => ?_)
  obtain ⟨hP1, hK1, hD1⟩ := hB
  rw [ht] at hP1
  obtain ⟨hP, hD⟩ := va_join (wr := [(x0, .inr (10, [.ref xTape, .ref xReader, .ref xBag, .ref xBld, .ref xAng, .ref xSum, .ref xPik, .int 0, .ref xHan, .ref xIns, .ref xShr, .ref xSta, .ref xTur])), (hM, .inl (cJ, 6, (.inr (.inl (vp_updL (fun _ => 0) (0 : Int32).toNatClampNeg 1)))))]) (w1 := [(xHan, .inr (3, [.int 0, .int 2, .int 1, .ref hH, .ref hR, .ref hT, .ref hM])), (xSum, .inr (8, [.ref sM, .ref sP, .ref sA, .int 0])), (hH, .inl (cI, 7, (.inl (upd (upd fh (0 : Int32).toNatClampNeg 0) (0 : Int32).toNatClampNeg 3)))), (hT, .inl (cJ, 7, (.inr (.inl (vp_updL (vp_updL ft (0 : Int32).toNatClampNeg 1) (0 : Int32).toNatClampNeg 1)))))]) hP hD [2, 1, 3, 4] [0, 5] rfl rfl (by decide) (by decide) hk1 hFc hP1 hD1
  generalize H1 = H at hP hS ⊢
  have hP : va_P (dC, dI) vwCl [(x0, .inr (10, [.ref xTape, .ref xReader, .ref xBag, .ref xBld, .ref xAng, .ref xSum, .ref xPik, .int 0, .ref xHan, .ref xIns, .ref xShr, .ref xSta, .ref xTur])), (hM, .inl (cJ, 6, (.inr (.inl (vp_updL (fun _ => 0) (0 : Int32).toNatClampNeg 1))))), (xHan, .inr (3, [.int 0, .int 2, .int 1, .ref hH, .ref hR, .ref hT, .ref hM])), (xSum, .inr (8, [.ref sM, .ref sP, .ref sA, .int 0])), (hH, .inl (cI, 7, (.inl (upd (upd fh (0 : Int32).toNatClampNeg 0) (0 : Int32).toNatClampNeg 3)))), (hT, .inl (cJ, 7, (.inr (.inl (vp_updL (vp_updL ft (0 : Int32).toNatClampNeg 1) (0 : Int32).toNatClampNeg 1)))))] H := hP
  have hD : va_D A [(x0, .inr (10, [.ref xTape, .ref xReader, .ref xBag, .ref xBld, .ref xAng, .ref xSum, .ref xPik, .int 0, .ref xHan, .ref xIns, .ref xShr, .ref xSta, .ref xTur])), (hM, .inl (cJ, 6, (.inr (.inl (vp_updL (fun _ => 0) (0 : Int32).toNatClampNeg 1))))), (xHan, .inr (3, [.int 0, .int 2, .int 1, .ref hH, .ref hR, .ref hT, .ref hM])), (xSum, .inr (8, [.ref sM, .ref sP, .ref sA, .int 0])), (hH, .inl (cI, 7, (.inl (upd (upd fh (0 : Int32).toNatClampNeg 0) (0 : Int32).toNatClampNeg 3)))), (hT, .inl (cJ, 7, (.inr (.inl (vp_updL (vp_updL ft (0 : Int32).toNatClampNeg 1) (0 : Int32).toNatClampNeg 1)))))] := hD
  refine lv_iinc (v := 4) (lv' := [(2, .int 4), (0, .ref x0), (1, .int 9)]) hx hb dX10_hangSolids_35 hl (k := 0) rfl (by decide) (by decide) rfl (fun ls hl => ?_)
  refine lv_goto (tgt := 9) hx hb dX10_hangSolids_38 (by decide) ?_
  refine lv_iload_n hx hb dX10_hangSolids_9 rfl (lv_at hl 0 rfl) ?_
  refine lv_iconst (v := 4) hx hb dX10_hangSolids_10 (by decide) ?_
  refine lv_icmp_ge (tgt := 41) hx hb dX10_hangSolids_11 (by decide) (fun _ => ?_) (fun c => absurd (by decide) c)
  have hP9 := hP.sub (ws' := [(x0, .inr (10, [.ref xTape, .ref xReader, .ref xBag, .ref xBld, .ref xAng, .ref xSum, .ref xPik, .int 0, .ref xHan, .ref xIns, .ref xShr, .ref xSta, .ref xTur])), (xHan, .inr (3, [.int 0, .int 2, .int 1, .ref hH, .ref hR, .ref hT, .ref hM])), (xSum, .inr (8, [.ref sM, .ref sP, .ref sA, .int 0])), (hH, .inl (cI, 7, (.inl (upd (upd fh (0 : Int32).toNatClampNeg 0) (0 : Int32).toNatClampNeg 3)))), (hT, .inl (cJ, 7, (.inr (.inl (vp_updL (vp_updL ft (0 : Int32).toNatClampNeg 1) (0 : Int32).toNatClampNeg 1))))), (hM, .inl (cJ, 6, (.inr (.inl (vp_updL (fun _ => 0) (0 : Int32).toNatClampNeg 1)))))]) [0, 2, 3, 4, 5, 1] rfl
  have hD9 := hD.sub (ws' := [(x0, .inr (10, [.ref xTape, .ref xReader, .ref xBag, .ref xBld, .ref xAng, .ref xSum, .ref xPik, .int 0, .ref xHan, .ref xIns, .ref xShr, .ref xSta, .ref xTur])), (xHan, .inr (3, [.int 0, .int 2, .int 1, .ref hH, .ref hR, .ref hT, .ref hM])), (xSum, .inr (8, [.ref sM, .ref sP, .ref sA, .int 0])), (hH, .inl (cI, 7, (.inl (upd (upd fh (0 : Int32).toNatClampNeg 0) (0 : Int32).toNatClampNeg 3)))), (hT, .inl (cJ, 7, (.inr (.inl (vp_updL (vp_updL ft (0 : Int32).toNatClampNeg 1) (0 : Int32).toNatClampNeg 1))))), (hM, .inl (cJ, 6, (.inr (.inl (vp_updL (fun _ => 0) (0 : Int32).toNatClampNeg 1)))))]) [0, 2, 3, 4, 5, 1] (by decide) rfl
  refine W.widen (k := 0) (n := 0) (Nat.le_of_ble_eq_true rfl) (Nat.le_of_ble_eq_true rfl) ?_
  exact W.vret hx hb hr (fun t ht hW => ⟨⟨(), rfl, trivial, by rw [ht]; exact hP9, va_K.moved hW.alike hK, hD9⟩, hS.F ht⟩) hS.2.2 dX10_hangSolids_41
set_option maxHeartbeats 4000000 in
set_option maxRecDepth 100000 in
theorem c_X10_hangSolids_10 (l : Launch) (dC : Nat → ClassId) (dI : Nat → Nat → Nat) (cB cI cJ : ClassId) (sz : Nat) (x0 xTape xReader xBag xBld xAng xSum xPik xHan xIns xShr xSta xTur sM sP sA hH hR hT hM : Nat) (fh : Nat → Int32) (ft : Nat → Int64) : Met l yX10_hangSolids wsX10_hangSolids ({ frames := 5, cells := 0, slots := 0, locals := 118 }) (va_Pc [.ref x0, .int 10] (fun U => U.heap.size = sz ∧ va_P (dC, dI) vwCl [(x0, .inr (10, [.ref xTape, .ref xReader, .ref xBag, .ref xBld, .ref xAng, .ref xSum, .ref xPik, .int 0, .ref xHan, .ref xIns, .ref xShr, .ref xSta, .ref xTur])), (xSum, .inr (8, [.ref sM, .ref sP, .ref sA, .int 0])), (xHan, .inr (3, [.int 0, .int 0, .int 0, .ref hH, .ref hR, .ref hT, .ref hM])), (hH, .inl (cI, 7, (.inl fh))), (hT, .inl (cJ, 7, (.inr (.inl ft)))), (hM, .inl (cJ, 6, (.inr (.inl (fun _ => 0)))))] U.heap ∧ va_K (dC, dI) vwCl [(cB, .byte), (cI, .int), (cJ, .long)] U ∧ va_D (fun _ => True) [(x0, .inr (10, [.ref xTape, .ref xReader, .ref xBag, .ref xBld, .ref xAng, .ref xSum, .ref xPik, .int 0, .ref xHan, .ref xIns, .ref xShr, .ref xSta, .ref xTur])), (xSum, .inr (8, [.ref sM, .ref sP, .ref sA, .int 0])), (xHan, .inr (3, [.int 0, .int 0, .int 0, .ref hH, .ref hR, .ref hT, .ref hM])), (hH, .inl (cI, 7, (.inl fh))), (hT, .inl (cJ, 7, (.inr (.inl ft)))), (hM, .inl (cJ, 6, (.inr (.inl (fun _ => 0)))))] ∧ va_Nw (.methodLinkNest RX3 62 yX10_gcd "ScissorsTable") U)) (va_Qv (fun _ : Unit => True) (fun _ t => va_P (dC, dI) vwCl [(x0, .inr (10, [.ref xTape, .ref xReader, .ref xBag, .ref xBld, .ref xAng, .ref xSum, .ref xPik, .int 0, .ref xHan, .ref xIns, .ref xShr, .ref xSta, .ref xTur])), (xHan, .inr (3, [.int 0, .int 2, .int 1, .ref hH, .ref hR, .ref hT, .ref hM])), (xSum, .inr (8, [.ref sM, .ref sP, .ref sA, .int 0])), (hH, .inl (cI, 7, (.inl (upd (upd fh (0 : Int32).toNatClampNeg 1) (0 : Int32).toNatClampNeg 3)))), (hT, .inl (cJ, 7, (.inr (.inl (vp_updL (vp_updL ft (0 : Int32).toNatClampNeg 1) (0 : Int32).toNatClampNeg 1))))), (hM, .inl (cJ, 6, (.inr (.inl (vp_updL (fun _ => 0) (0 : Int32).toNatClampNeg 1)))))] t.heap ∧ va_K (dC, dI) vwCl [(cB, .byte), (cI, .int), (cJ, .long)] t ∧ va_D (va_A [(x0, .inr (10, [.ref xTape, .ref xReader, .ref xBag, .ref xBld, .ref xAng, .ref xSum, .ref xPik, .int 0, .ref xHan, .ref xIns, .ref xShr, .ref xSta, .ref xTur])), (xSum, .inr (8, [.ref sM, .ref sP, .ref sA, .int 0])), (xHan, .inr (3, [.int 0, .int 0, .int 0, .ref hH, .ref hR, .ref hT, .ref hM])), (hH, .inl (cI, 7, (.inl fh))), (hT, .inl (cJ, 7, (.inr (.inl ft)))), (hM, .inl (cJ, 6, (.inr (.inl (fun _ => 0)))))] sz) [(x0, .inr (10, [.ref xTape, .ref xReader, .ref xBag, .ref xBld, .ref xAng, .ref xSum, .ref xPik, .int 0, .ref xHan, .ref xIns, .ref xShr, .ref xSta, .ref xTur])), (xHan, .inr (3, [.int 0, .int 2, .int 1, .ref hH, .ref hR, .ref hT, .ref hM])), (xSum, .inr (8, [.ref sM, .ref sP, .ref sA, .int 0])), (hH, .inl (cI, 7, (.inl (upd (upd fh (0 : Int32).toNatClampNeg 1) (0 : Int32).toNatClampNeg 3)))), (hT, .inl (cJ, 7, (.inr (.inl (vp_updL (vp_updL ft (0 : Int32).toNatClampNeg 1) (0 : Int32).toNatClampNeg 1))))), (hM, .inl (cJ, 6, (.inr (.inl (vp_updL (fun _ => 0) (0 : Int32).toNatClampNeg 1)))))]) (va_A [(x0, .inr (10, [.ref xTape, .ref xReader, .ref xBag, .ref xBld, .ref xAng, .ref xSum, .ref xPik, .int 0, .ref xHan, .ref xIns, .ref xShr, .ref xSta, .ref xTur])), (xSum, .inr (8, [.ref sM, .ref sP, .ref sA, .int 0])), (xHan, .inr (3, [.int 0, .int 0, .int 0, .ref hH, .ref hR, .ref hT, .ref hM])), (hH, .inl (cI, 7, (.inl fh))), (hT, .inl (cJ, 7, (.inr (.inl ft)))), (hM, .inl (cJ, 6, (.inr (.inl (fun _ => 0)))))] sz)) 0 0 (va_A [(x0, .inr (10, [.ref xTape, .ref xReader, .ref xBag, .ref xBld, .ref xAng, .ref xSum, .ref xPik, .int 0, .ref xHan, .ref xIns, .ref xShr, .ref xSta, .ref xTur])), (xSum, .inr (8, [.ref sM, .ref sP, .ref sA, .int 0])), (xHan, .inr (3, [.int 0, .int 0, .int 0, .ref hH, .ref hR, .ref hT, .ref hM])), (hH, .inl (cI, 7, (.inl fh))), (hT, .inl (cJ, 7, (.inr (.inl ft)))), (hM, .inl (cJ, 6, (.inr (.inl (fun _ => 0)))))] sz) := by
  refine Met.ofW (cc := cX10_hangSolids) (maxL := 3) (ret := none) (by decide) rfl ?_
  intro p e s m args below meth c s₁ B hml hv
  obtain ⟨rfl, hsz, hP, hK, hD0, hN0⟩ := hv
  have hx := B.exec
  have hb := B.bytes
  have hr := B.returns
  have hts := atoms_spec (ws := wsX10_hangSolids) B.pre
  have hown : s.vm.findClass RX10 = some m.cls := findClass_of_methodNamed B.named
  have hlocks := B.notSynchronized
  have hiX10 : ∀ w ∈ u_ws RX10 TX10 13, w ∈ wsX10_hangSolids := by decide +kernel
  subst hsz
  have hD := hD0.self (sz := s.heap.size)
  generalize hAe : va_A [(x0, .inr (10, [.ref xTape, .ref xReader, .ref xBag, .ref xBld, .ref xAng, .ref xSum, .ref xPik, .int 0, .ref xHan, .ref xIns, .ref xShr, .ref xSta, .ref xTur])), (xSum, .inr (8, [.ref sM, .ref sP, .ref sA, .int 0])), (xHan, .inr (3, [.int 0, .int 0, .int 0, .ref hH, .ref hR, .ref hT, .ref hM])), (hH, .inl (cI, 7, (.inl fh))), (hT, .inl (cJ, 7, (.inr (.inl ft)))), (hM, .inl (cJ, 6, (.inr (.inl (fun _ => 0)))))] s.heap.size = A at hD ⊢
  have hA : ∀ q : Nat, s.heap.size ≤ q → A q := fun q h => by rw [← hAe]; exact Or.inr h
  have hS : va_S A s.heap s.heap [] := va_S.rf
  have hP : va_P (dC, dI) vwCl [(x0, .inr (10, [.ref xTape, .ref xReader, .ref xBag, .ref xBld, .ref xAng, .ref xSum, .ref xPik, .int 0, .ref xHan, .ref xIns, .ref xShr, .ref xSta, .ref xTur])), (xSum, .inr (8, [.ref sM, .ref sP, .ref sA, .int 0])), (xHan, .inr (3, [.int 0, .int 0, .int 0, .ref hH, .ref hR, .ref hT, .ref hM])), (hH, .inl (cI, 7, (.inl fh))), (hT, .inl (cJ, 7, (.inr (.inl ft)))), (hM, .inl (cJ, 6, (.inr (.inl (fun _ => 0)))))] s.heap := hP
  have hl := lv_entry ([.ref x0, .int 10]) (n := 3) (Nat.le_of_ble_eq_true rfl)
  rw [lg_entry_eq]
  generalize (lg_sl ([.ref x0, .int 10]) ++ List.replicate (3 - (lg_sl ([.ref x0, .int 10])).length) Slot.unset).toArray = ls at hl ⊢
  have hl : lv_has ls 3 [(0, .ref x0), (1, .int 10)] := hl
  refine lv_aload_n hx hb dX10_hangSolids_0 rfl (lv_at hl 0 rfl) ?_
  refine va_get (D := (dC, dI)) (ci := 10) (v := .ref xHan) (C := RX10) (T := TX10) (N := 13) hx hb hts hiX10 hown hK hP 0 rfl rfl 8 (by decide) (hts (.fieldLink RX10 61 "ScissorsTable" "hang" "LScissorsTable$Hang;") (by decide +kernel)) (fun _ h9 => h9) rfl dX10_hangSolids_1 ?_
  have hPc := hP.sub (ws' := [(xHan, .inr (3, [.int 0, .int 0, .int 0, .ref hH, .ref hR, .ref hT, .ref hM]))]) [2] rfl
  have hDc := hD.sub (ws' := [(xHan, .inr (3, [.int 0, .int 0, .int 0, .ref hH, .ref hR, .ref hT, .ref hM]))]) [2] (by decide) rfl
  have hFc := va_free (wc := [(xHan, .inr (3, [.int 0, .int 0, .int 0, .ref hH, .ref hR, .ref hT, .ref hM]))]) hD hS hA [2] rfl
  refine va_callv (va_runV (As := []) (rest := []) ⟨hx, hb, hml, hown, hts⟩ (c_X3_begin l dC dI cB cI cJ s.heap.size xHan hH hR hT hM) (cwV 0 hts gX10_hangSolids_X3_begin rfl rfl rfl (by decide +kernel) ⟨Nat.le_of_ble_eq_true rfl, Nat.le_of_ble_eq_true rfl⟩) ⟨fun a U g mk q => by obtain ⟨q0, q1, qP, qK, qD⟩ := q; exact ⟨q0, q1, qP, va_K.moved (u := U) (U := U.calling g mk a) (Vm.Alike.refl U.vm) qK, qD⟩, va_recv hK hP (ci := 3) (q0 := 2) rfl rfl, fun U hU hW => ⟨rfl, by rw [hU], by rw [hU]; exact hPc, va_K.moved hW.alike hK, hDc.weaken (fun _ _ _ _ => trivial)⟩⟩ rfl rfl hl.1 rfl (lv_room (Nat.le_of_ble_eq_true rfl)) dX10_hangSolids_4 ⟨Nat.le_of_ble_eq_true rfl, Nat.le_of_ble_eq_true rfl⟩) hS (fun q _ h => hFc q h) hFc (fun u t H1 locs ht hvm hw hB hz1 hk1 hS => ?_)
  obtain ⟨hP1, hK1, hD1⟩ := hB
  rw [ht] at hP1
  obtain ⟨hP, hD⟩ := va_join (wr := [(x0, .inr (10, [.ref xTape, .ref xReader, .ref xBag, .ref xBld, .ref xAng, .ref xSum, .ref xPik, .int 0, .ref xHan, .ref xIns, .ref xShr, .ref xSta, .ref xTur])), (xSum, .inr (8, [.ref sM, .ref sP, .ref sA, .int 0])), (hH, .inl (cI, 7, (.inl fh))), (hT, .inl (cJ, 7, (.inr (.inl ft)))), (hM, .inl (cJ, 6, (.inr (.inl (fun _ => 0)))))]) (w1 := [(xHan, .inr (3, [.int 0, .int 0, .int 0, .ref hH, .ref hR, .ref hT, .ref hM]))]) hP hD [2] [0, 1, 3, 4, 5] rfl rfl (by decide) (by decide) hk1 hFc hP1 hD1
  generalize H1 = H at hP hS ⊢
  have hP : va_P (dC, dI) vwCl [(x0, .inr (10, [.ref xTape, .ref xReader, .ref xBag, .ref xBld, .ref xAng, .ref xSum, .ref xPik, .int 0, .ref xHan, .ref xIns, .ref xShr, .ref xSta, .ref xTur])), (xSum, .inr (8, [.ref sM, .ref sP, .ref sA, .int 0])), (hH, .inl (cI, 7, (.inl fh))), (hT, .inl (cJ, 7, (.inr (.inl ft)))), (hM, .inl (cJ, 6, (.inr (.inl (fun _ => 0))))), (xHan, .inr (3, [.int 0, .int 0, .int 0, .ref hH, .ref hR, .ref hT, .ref hM]))] H := hP
  have hD : va_D A [(x0, .inr (10, [.ref xTape, .ref xReader, .ref xBag, .ref xBld, .ref xAng, .ref xSum, .ref xPik, .int 0, .ref xHan, .ref xIns, .ref xShr, .ref xSta, .ref xTur])), (xSum, .inr (8, [.ref sM, .ref sP, .ref sA, .int 0])), (hH, .inl (cI, 7, (.inl fh))), (hT, .inl (cJ, 7, (.inr (.inl ft)))), (hM, .inl (cJ, 6, (.inr (.inl (fun _ => 0))))), (xHan, .inr (3, [.int 0, .int 0, .int 0, .ref hH, .ref hR, .ref hT, .ref hM]))] := hD
  refine lv_iconst (v := 0) hx hb dX10_hangSolids_7 (by decide) ?_
  refine lv_istore_n (lv' := [(2, .int 0), (0, .ref x0), (1, .int 10)]) hx hb dX10_hangSolids_8 rfl hl (by decide) rfl (fun ls hl => ?_)
  refine lv_iload_n hx hb dX10_hangSolids_9 rfl (lv_at hl 0 rfl) ?_
  refine lv_iconst (v := 4) hx hb dX10_hangSolids_10 (by decide) ?_
  refine lv_icmp_ge (tgt := 41) hx hb dX10_hangSolids_11 (by decide) (fun c => absurd c (by decide)) (fun _ => ?_)
  refine lv_iload_n hx hb dX10_hangSolids_14 rfl (lv_at hl 2 rfl) ?_
  refine lv_iload_n hx hb dX10_hangSolids_15 rfl (lv_at hl 0 rfl) ?_
  refine lv_ishr hx hb dX10_hangSolids_16 ?_
  refine lv_topi (fun x_1 ex_1 => ?_)
  obtain rfl : x_1 = 10 := ex_1.trans (by first | rfl | decide)
  refine lv_iconst (v := 1) hx hb dX10_hangSolids_17 (by decide) ?_
  refine lv_iand hx hb dX10_hangSolids_18 ?_
  refine lv_topi (fun x_2 ex_2 => ?_)
  obtain rfl : x_2 = 0 := ex_2.trans (by first | rfl | decide)
  refine lv_iconst (v := 1) hx hb dX10_hangSolids_19 (by decide) ?_
  refine lv_icmp_ne (tgt := 35) hx hb dX10_hangSolids_20 (by decide) (fun _ => ?_) (fun c => absurd c (by decide))
  refine lv_iinc (v := 1) (lv' := [(2, .int 1), (0, .ref x0), (1, .int 10)]) hx hb dX10_hangSolids_35 hl (k := 0) rfl (by decide) (by decide) rfl (fun ls hl => ?_)
  refine lv_goto (tgt := 9) hx hb dX10_hangSolids_38 (by decide) ?_
  refine lv_iload_n hx hb dX10_hangSolids_9 rfl (lv_at hl 0 rfl) ?_
  refine lv_iconst (v := 4) hx hb dX10_hangSolids_10 (by decide) ?_
  refine lv_icmp_ge (tgt := 41) hx hb dX10_hangSolids_11 (by decide) (fun c => absurd c (by decide)) (fun _ => ?_)
  refine lv_iload_n hx hb dX10_hangSolids_14 rfl (lv_at hl 2 rfl) ?_
  refine lv_iload_n hx hb dX10_hangSolids_15 rfl (lv_at hl 0 rfl) ?_
  refine lv_ishr hx hb dX10_hangSolids_16 ?_
  refine lv_topi (fun x_3 ex_3 => ?_)
  obtain rfl : x_3 = 5 := ex_3.trans (by first | rfl | decide)
  refine lv_iconst (v := 1) hx hb dX10_hangSolids_17 (by decide) ?_
  refine lv_iand hx hb dX10_hangSolids_18 ?_
  refine lv_topi (fun x_4 ex_4 => ?_)
  obtain rfl : x_4 = 1 := ex_4.trans (by first | rfl | decide)
  refine lv_iconst (v := 1) hx hb dX10_hangSolids_19 (by decide) ?_
  refine lv_icmp_ne (tgt := 35) hx hb dX10_hangSolids_20 (by decide) (fun c => absurd (by decide) c) (fun _ => ?_)
  refine lv_aload_n hx hb dX10_hangSolids_23 rfl (lv_at hl 1 rfl) ?_
  refine va_get (D := (dC, dI)) (ci := 10) (v := .ref xHan) (C := RX10) (T := TX10) (N := 13) hx hb hts hiX10 hown hK hP 0 rfl rfl 8 (by decide) (hts (.fieldLink RX10 61 "ScissorsTable" "hang" "LScissorsTable$Hang;") (by decide +kernel)) (fun _ h9 => h9) rfl dX10_hangSolids_24 ?_
  refine lv_aload_n hx hb dX10_hangSolids_27 rfl (lv_at hl 1 rfl) ?_
  refine va_get (D := (dC, dI)) (ci := 10) (v := .ref xSum) (C := RX10) (T := TX10) (N := 13) hx hb hts hiX10 hown hK hP 0 rfl rfl 5 (by decide) (hts (.fieldLink RX10 51 "ScissorsTable" "sums" "LScissorsTable$Sums;") (by decide +kernel)) (fun _ h9 => h9) rfl dX10_hangSolids_28 ?_
  refine lv_iload_n hx hb dX10_hangSolids_31 rfl (lv_at hl 0 rfl) ?_
  have hPc := hP.sub (ws' := [(xSum, .inr (8, [.ref sM, .ref sP, .ref sA, .int 0])), (xHan, .inr (3, [.int 0, .int 0, .int 0, .ref hH, .ref hR, .ref hT, .ref hM])), (hH, .inl (cI, 7, (.inl fh))), (hT, .inl (cJ, 7, (.inr (.inl ft)))), (hM, .inl (cJ, 6, (.inr (.inl (fun _ => 0)))))]) [1, 5, 2, 3, 4] rfl
  have hDc := hD.sub (ws' := [(xSum, .inr (8, [.ref sM, .ref sP, .ref sA, .int 0])), (xHan, .inr (3, [.int 0, .int 0, .int 0, .ref hH, .ref hR, .ref hT, .ref hM])), (hH, .inl (cI, 7, (.inl fh))), (hT, .inl (cJ, 7, (.inr (.inl ft)))), (hM, .inl (cJ, 6, (.inr (.inl (fun _ => 0)))))]) [1, 5, 2, 3, 4] (by decide) rfl
  have hFc := va_free (wc := [(xSum, .inr (8, [.ref sM, .ref sP, .ref sA, .int 0])), (xHan, .inr (3, [.int 0, .int 0, .int 0, .ref hH, .ref hR, .ref hT, .ref hM])), (hH, .inl (cI, 7, (.inl fh))), (hT, .inl (cJ, 7, (.inr (.inl ft)))), (hM, .inl (cJ, 6, (.inr (.inl (fun _ => 0)))))]) hD hS hA [1, 5, 2, 3, 4] rfl
  refine va_callv (va_runV (As := [.ref xSum, .int 1]) (rest := []) ⟨hx, hb, hml, hown, hts⟩ (c_X3_next_t0 l dC dI cB cI cJ H.size xSum sM sP sA xHan hH hR hT hM 1 fh ft) (cwV 2 hts gX10_hangSolids_X3_next rfl rfl rfl (by decide +kernel) ⟨Nat.le_of_ble_eq_true rfl, Nat.le_of_ble_eq_true rfl⟩) ⟨fun a U g mk q => by obtain ⟨q0, q1, qP, qK, qD, qN0⟩ := q; exact ⟨q0, q1, qP, va_K.moved (u := U) (U := U.calling g mk a) (Vm.Alike.refl U.vm) qK, qD, va_Nw.same rfl rfl qN0⟩, va_recv hK hP (ci := 3) (q0 := 5) rfl rfl, fun U hU hW => ⟨rfl, by rw [hU], by rw [hU]; exact hPc, va_K.moved hW.alike hK, hDc.weaken (fun _ _ _ _ => trivial), va_Nw.warmM hW hN0⟩⟩ rfl rfl hl.1 rfl (lv_room (Nat.le_of_ble_eq_true rfl)) dX10_hangSolids_32 ⟨Nat.le_of_ble_eq_true rfl, Nat.le_of_ble_eq_true rfl⟩) hS (fun q _ h => hFc q h) hFc (fun u t H1 locs ht hvm hw hB hz1 hk1 hS => ?_)
  obtain ⟨hP1, hK1, hD1⟩ := hB
  rw [ht] at hP1
  obtain ⟨hP, hD⟩ := va_join (wr := [(x0, .inr (10, [.ref xTape, .ref xReader, .ref xBag, .ref xBld, .ref xAng, .ref xSum, .ref xPik, .int 0, .ref xHan, .ref xIns, .ref xShr, .ref xSta, .ref xTur]))]) (w1 := [(xHan, .inr (3, [.int 0, .int 1, .int 1, .ref hH, .ref hR, .ref hT, .ref hM])), (xSum, .inr (8, [.ref sM, .ref sP, .ref sA, .int 0])), (hH, .inl (cI, 7, (.inl (upd fh (0 : Int32).toNatClampNeg 1)))), (hT, .inl (cJ, 7, (.inr (.inl (vp_updL ft (0 : Int32).toNatClampNeg 1))))), (hM, .inl (cJ, 6, (.inr (.inl (vp_updL (fun _ => 0) (0 : Int32).toNatClampNeg 1)))))]) hP hD [1, 5, 2, 3, 4] [0] rfl rfl (by decide) (by decide) hk1 hFc hP1 hD1
  generalize H1 = H at hP hS ⊢
  have hP : va_P (dC, dI) vwCl [(x0, .inr (10, [.ref xTape, .ref xReader, .ref xBag, .ref xBld, .ref xAng, .ref xSum, .ref xPik, .int 0, .ref xHan, .ref xIns, .ref xShr, .ref xSta, .ref xTur])), (xHan, .inr (3, [.int 0, .int 1, .int 1, .ref hH, .ref hR, .ref hT, .ref hM])), (xSum, .inr (8, [.ref sM, .ref sP, .ref sA, .int 0])), (hH, .inl (cI, 7, (.inl (upd fh (0 : Int32).toNatClampNeg 1)))), (hT, .inl (cJ, 7, (.inr (.inl (vp_updL ft (0 : Int32).toNatClampNeg 1))))), (hM, .inl (cJ, 6, (.inr (.inl (vp_updL (fun _ => 0) (0 : Int32).toNatClampNeg 1)))))] H := hP
  have hD : va_D A [(x0, .inr (10, [.ref xTape, .ref xReader, .ref xBag, .ref xBld, .ref xAng, .ref xSum, .ref xPik, .int 0, .ref xHan, .ref xIns, .ref xShr, .ref xSta, .ref xTur])), (xHan, .inr (3, [.int 0, .int 1, .int 1, .ref hH, .ref hR, .ref hT, .ref hM])), (xSum, .inr (8, [.ref sM, .ref sP, .ref sA, .int 0])), (hH, .inl (cI, 7, (.inl (upd fh (0 : Int32).toNatClampNeg 1)))), (hT, .inl (cJ, 7, (.inr (.inl (vp_updL ft (0 : Int32).toNatClampNeg 1))))), (hM, .inl (cJ, 6, (.inr (.inl (vp_updL (fun _ => 0) (0 : Int32).toNatClampNeg 1)))))] := hD
  refine lv_iinc (v := 2) (lv' := [(2, .int 2), (0, .ref x0), (1, .int 10)]) hx hb dX10_hangSolids_35 hl (k := 0) rfl (by decide) (by decide) rfl (fun ls hl => ?_)
  refine lv_goto (tgt := 9) hx hb dX10_hangSolids_38 (by decide) ?_
  refine lv_iload_n hx hb dX10_hangSolids_9 rfl (lv_at hl 0 rfl) ?_
  refine lv_iconst (v := 4) hx hb dX10_hangSolids_10 (by decide) ?_
  refine lv_icmp_ge (tgt := 41) hx hb dX10_hangSolids_11 (by decide) (fun c => absurd c (by decide)) (fun _ => ?_)
  refine lv_iload_n hx hb dX10_hangSolids_14 rfl (lv_at hl 2 rfl) ?_
  refine lv_iload_n hx hb dX10_hangSolids_15 rfl (lv_at hl 0 rfl) ?_
  refine lv_ishr hx hb dX10_hangSolids_16 ?_
  refine lv_topi (fun x_5 ex_5 => ?_)
  obtain rfl : x_5 = 2 := ex_5.trans (by first | rfl | decide)
  refine lv_iconst (v := 1) hx hb dX10_hangSolids_17 (by decide) ?_
  refine lv_iand hx hb dX10_hangSolids_18 ?_
  refine lv_topi (fun x_6 ex_6 => ?_)
  obtain rfl : x_6 = 0 := ex_6.trans (by first | rfl | decide)
  refine lv_iconst (v := 1) hx hb dX10_hangSolids_19 (by decide) ?_
  refine lv_icmp_ne (tgt := 35) hx hb dX10_hangSolids_20 (by decide) (fun _ => ?_) (fun c => absurd c (by decide))
  refine lv_iinc (v := 3) (lv' := [(2, .int 3), (0, .ref x0), (1, .int 10)]) hx hb dX10_hangSolids_35 hl (k := 0) rfl (by decide) (by decide) rfl (fun ls hl => ?_)
  refine lv_goto (tgt := 9) hx hb dX10_hangSolids_38 (by decide) ?_
  refine lv_iload_n hx hb dX10_hangSolids_9 rfl (lv_at hl 0 rfl) ?_
  refine lv_iconst (v := 4) hx hb dX10_hangSolids_10 (by decide) ?_
  refine lv_icmp_ge (tgt := 41) hx hb dX10_hangSolids_11 (by decide) (fun c => absurd c (by decide)) (fun _ => ?_)
  refine lv_iload_n hx hb dX10_hangSolids_14 rfl (lv_at hl 2 rfl) ?_
  refine lv_iload_n hx hb dX10_hangSolids_15 rfl (lv_at hl 0 rfl) ?_
  refine lv_ishr hx hb dX10_hangSolids_16 ?_
  refine lv_topi (fun x_7 ex_7 => ?_)
  obtain rfl : x_7 = 1 := ex_7.trans (by first | rfl | decide)
  refine lv_iconst (v := 1) hx hb dX10_hangSolids_17 (by decide) ?_
  refine lv_iand hx hb dX10_hangSolids_18 ?_
  refine lv_topi (fun x_8 ex_8 => ?_)
  obtain rfl : x_8 = 1 := ex_8.trans (by first | rfl | decide)
  refine lv_iconst (v := 1) hx hb dX10_hangSolids_19 (by decide) ?_
  refine lv_icmp_ne (tgt := 35) hx hb dX10_hangSolids_20 (by decide) (fun c => absurd (by decide) c) (fun _ => ?_)
  refine lv_aload_n hx hb dX10_hangSolids_23 rfl (lv_at hl 1 rfl) ?_
  refine va_get (D := (dC, dI)) (ci := 10) (v := .ref xHan) (C := RX10) (T := TX10) (N := 13) hx hb hts hiX10 hown hK hP 0 rfl rfl 8 (by decide) (hts (.fieldLink RX10 61 "ScissorsTable" "hang" "LScissorsTable$Hang;") (by decide +kernel)) (fun _ h9 => h9) rfl dX10_hangSolids_24 ?_
  refine lv_aload_n hx hb dX10_hangSolids_27 rfl (lv_at hl 1 rfl) ?_
  refine va_get (D := (dC, dI)) (ci := 10) (v := .ref xSum) (C := RX10) (T := TX10) (N := 13) hx hb hts hiX10 hown hK hP 0 rfl rfl 5 (by decide) (hts (.fieldLink RX10 51 "ScissorsTable" "sums" "LScissorsTable$Sums;") (by decide +kernel)) (fun _ h9 => h9) rfl dX10_hangSolids_28 ?_
  refine lv_iload_n hx hb dX10_hangSolids_31 rfl (lv_at hl 0 rfl) ?_
  have hPc := hP.sub (ws' := [(xSum, .inr (8, [.ref sM, .ref sP, .ref sA, .int 0])), (xHan, .inr (3, [.int 0, .int 1, .int 1, .ref hH, .ref hR, .ref hT, .ref hM])), (hH, .inl (cI, 7, (.inl (upd fh (0 : Int32).toNatClampNeg 1)))), (hT, .inl (cJ, 7, (.inr (.inl (vp_updL ft (0 : Int32).toNatClampNeg 1)))))]) [2, 1, 3, 4] rfl
  have hDc := hD.sub (ws' := [(xSum, .inr (8, [.ref sM, .ref sP, .ref sA, .int 0])), (xHan, .inr (3, [.int 0, .int 1, .int 1, .ref hH, .ref hR, .ref hT, .ref hM])), (hH, .inl (cI, 7, (.inl (upd fh (0 : Int32).toNatClampNeg 1)))), (hT, .inl (cJ, 7, (.inr (.inl (vp_updL ft (0 : Int32).toNatClampNeg 1)))))]) [2, 1, 3, 4] (by decide) rfl
  have hFc := va_free (wc := [(xSum, .inr (8, [.ref sM, .ref sP, .ref sA, .int 0])), (xHan, .inr (3, [.int 0, .int 1, .int 1, .ref hH, .ref hR, .ref hT, .ref hM])), (hH, .inl (cI, 7, (.inl (upd fh (0 : Int32).toNatClampNeg 1)))), (hT, .inl (cJ, 7, (.inr (.inl (vp_updL ft (0 : Int32).toNatClampNeg 1)))))]) hD hS hA [2, 1, 3, 4] rfl
  refine va_callv (va_runV (As := [.ref xSum, .int 3]) (rest := []) ⟨hx, hb, hml, hown, hts⟩ (c_X3_next_t1 l dC dI cB cI cJ H.size xSum sM sP sA xHan hH hR hT hM 3 (upd fh (0 : Int32).toNatClampNeg 1) (vp_updL ft (0 : Int32).toNatClampNeg 1)) (cwV 2 hts gX10_hangSolids_X3_next rfl rfl rfl (by decide +kernel) ⟨Nat.le_of_ble_eq_true rfl, Nat.le_of_ble_eq_true rfl⟩) ⟨fun a U g mk q => by obtain ⟨q0, q1, qP, qK, qD⟩ := q; exact ⟨q0, q1, qP, va_K.moved (u := U) (U := U.calling g mk a) (Vm.Alike.refl U.vm) qK, qD⟩, va_recv hK hP (ci := 3) (q0 := 1) rfl rfl, fun U hU hW => ⟨rfl, by rw [hU], by rw [hU]; exact hPc, va_K.moved hW.alike hK, hDc.weaken (fun _ _ _ _ => trivial)⟩⟩ rfl rfl hl.1 rfl (lv_room (Nat.le_of_ble_eq_true rfl)) dX10_hangSolids_32 ⟨Nat.le_of_ble_eq_true rfl, Nat.le_of_ble_eq_true rfl⟩) hS (fun q _ h => hFc q h) hFc (fun u t H1 locs ht hvm hw hB hz1 hk1 hS => ?_)
  obtain ⟨hP1, hK1, hD1⟩ := hB
  rw [ht] at hP1
  obtain ⟨hP, hD⟩ := va_join (wr := [(x0, .inr (10, [.ref xTape, .ref xReader, .ref xBag, .ref xBld, .ref xAng, .ref xSum, .ref xPik, .int 0, .ref xHan, .ref xIns, .ref xShr, .ref xSta, .ref xTur])), (hM, .inl (cJ, 6, (.inr (.inl (vp_updL (fun _ => 0) (0 : Int32).toNatClampNeg 1)))))]) (w1 := [(xHan, .inr (3, [.int 0, .int 2, .int 1, .ref hH, .ref hR, .ref hT, .ref hM])), (xSum, .inr (8, [.ref sM, .ref sP, .ref sA, .int 0])), (hH, .inl (cI, 7, (.inl (upd (upd fh (0 : Int32).toNatClampNeg 1) (0 : Int32).toNatClampNeg 3)))), (hT, .inl (cJ, 7, (.inr (.inl (vp_updL (vp_updL ft (0 : Int32).toNatClampNeg 1) (0 : Int32).toNatClampNeg 1)))))]) hP hD [2, 1, 3, 4] [0, 5] rfl rfl (by decide) (by decide) hk1 hFc hP1 hD1
  generalize H1 = H at hP hS ⊢
  have hP : va_P (dC, dI) vwCl [(x0, .inr (10, [.ref xTape, .ref xReader, .ref xBag, .ref xBld, .ref xAng, .ref xSum, .ref xPik, .int 0, .ref xHan, .ref xIns, .ref xShr, .ref xSta, .ref xTur])), (hM, .inl (cJ, 6, (.inr (.inl (vp_updL (fun _ => 0) (0 : Int32).toNatClampNeg 1))))), (xHan, .inr (3, [.int 0, .int 2, .int 1, .ref hH, .ref hR, .ref hT, .ref hM])), (xSum, .inr (8, [.ref sM, .ref sP, .ref sA, .int 0])), (hH, .inl (cI, 7, (.inl (upd (upd fh (0 : Int32).toNatClampNeg 1) (0 : Int32).toNatClampNeg 3)))), (hT, .inl (cJ, 7, (.inr (.inl (vp_updL (vp_updL ft (0 : Int32).toNatClampNeg 1) (0 : Int32).toNatClampNeg 1)))))] H := hP
  have hD : va_D A [(x0, .inr (10, [.ref xTape, .ref xReader, .ref xBag, .ref xBld, .ref xAng, .ref xSum, .ref xPik, .int 0, .ref xHan, .ref xIns, .ref xShr, .ref xSta, .ref xTur])), (hM, .inl (cJ, 6, (.inr (.inl (vp_updL (fun _ => 0) (0 : Int32).toNatClampNeg 1))))), (xHan, .inr (3, [.int 0, .int 2, .int 1, .ref hH, .ref hR, .ref hT, .ref hM])), (xSum, .inr (8, [.ref sM, .ref sP, .ref sA, .int 0])), (hH, .inl (cI, 7, (.inl (upd (upd fh (0 : Int32).toNatClampNeg 1) (0 : Int32).toNatClampNeg 3)))), (hT, .inl (cJ, 7, (.inr (.inl (vp_updL (vp_updL ft (0 : Int32).toNatClampNeg 1) (0 : Int32).toNatClampNeg 1)))))] := hD
  refine lv_iinc (v := 4) (lv' := [(2, .int 4), (0, .ref x0), (1, .int 10)]) hx hb dX10_hangSolids_35 hl (k := 0) rfl (by decide) (by decide) rfl (fun ls hl => ?_)
  refine lv_goto (tgt := 9) hx hb dX10_hangSolids_38 (by decide) ?_
  refine lv_iload_n hx hb dX10_hangSolids_9 rfl (lv_at hl 0 rfl) ?_
  refine lv_iconst (v := 4) hx hb dX10_hangSolids_10 (by decide) ?_
  refine lv_icmp_ge (tgt := 41) hx hb dX10_hangSolids_11 (by decide) (fun _ => ?_) (fun c => absurd (by decide) c)
  have hP9 := hP.sub (ws' := [(x0, .inr (10, [.ref xTape, .ref xReader, .ref xBag, .ref xBld, .ref xAng, .ref xSum, .ref xPik, .int 0, .ref xHan, .ref xIns, .ref xShr, .ref xSta, .ref xTur])), (xHan, .inr (3, [.int 0, .int 2, .int 1, .ref hH, .ref hR, .ref hT, .ref hM])), (xSum, .inr (8, [.ref sM, .ref sP, .ref sA, .int 0])), (hH, .inl (cI, 7, (.inl (upd (upd fh (0 : Int32).toNatClampNeg 1) (0 : Int32).toNatClampNeg 3)))), (hT, .inl (cJ, 7, (.inr (.inl (vp_updL (vp_updL ft (0 : Int32).toNatClampNeg 1) (0 : Int32).toNatClampNeg 1))))), (hM, .inl (cJ, 6, (.inr (.inl (vp_updL (fun _ => 0) (0 : Int32).toNatClampNeg 1)))))]) [0, 2, 3, 4, 5, 1] rfl
  have hD9 := hD.sub (ws' := [(x0, .inr (10, [.ref xTape, .ref xReader, .ref xBag, .ref xBld, .ref xAng, .ref xSum, .ref xPik, .int 0, .ref xHan, .ref xIns, .ref xShr, .ref xSta, .ref xTur])), (xHan, .inr (3, [.int 0, .int 2, .int 1, .ref hH, .ref hR, .ref hT, .ref hM])), (xSum, .inr (8, [.ref sM, .ref sP, .ref sA, .int 0])), (hH, .inl (cI, 7, (.inl (upd (upd fh (0 : Int32).toNatClampNeg 1) (0 : Int32).toNatClampNeg 3)))), (hT, .inl (cJ, 7, (.inr (.inl (vp_updL (vp_updL ft (0 : Int32).toNatClampNeg 1) (0 : Int32).toNatClampNeg 1))))), (hM, .inl (cJ, 6, (.inr (.inl (vp_updL (fun _ => 0) (0 : Int32).toNatClampNeg 1)))))]) [0, 2, 3, 4, 5, 1] (by decide) rfl
  refine W.widen (k := 0) (n := 0) (Nat.le_of_ble_eq_true rfl) (Nat.le_of_ble_eq_true rfl) ?_
  exact W.vret hx hb hr (fun t ht hW => ⟨⟨(), rfl, trivial, by rw [ht]; exact hP9, va_K.moved hW.alike hK, hD9⟩, hS.F ht⟩) hS.2.2 dX10_hangSolids_41
set_option maxHeartbeats 4000000 in
set_option maxRecDepth 100000 in
theorem c_X10_hangSolids_11 (l : Launch) (dC : Nat → ClassId) (dI : Nat → Nat → Nat) (cB cI cJ : ClassId) (sz : Nat) (x0 xTape xReader xBag xBld xAng xSum xPik xHan xIns xShr xSta xTur sM sP sA hH hR hT hM : Nat) (fh : Nat → Int32) (ft : Nat → Int64) : Met l yX10_hangSolids wsX10_hangSolids ({ frames := 5, cells := 0, slots := 0, locals := 118 }) (va_Pc [.ref x0, .int 11] (fun U => U.heap.size = sz ∧ va_P (dC, dI) vwCl [(x0, .inr (10, [.ref xTape, .ref xReader, .ref xBag, .ref xBld, .ref xAng, .ref xSum, .ref xPik, .int 0, .ref xHan, .ref xIns, .ref xShr, .ref xSta, .ref xTur])), (xSum, .inr (8, [.ref sM, .ref sP, .ref sA, .int 0])), (xHan, .inr (3, [.int 0, .int 0, .int 0, .ref hH, .ref hR, .ref hT, .ref hM])), (hH, .inl (cI, 7, (.inl fh))), (hT, .inl (cJ, 7, (.inr (.inl ft)))), (hM, .inl (cJ, 6, (.inr (.inl (fun _ => 0)))))] U.heap ∧ va_K (dC, dI) vwCl [(cB, .byte), (cI, .int), (cJ, .long)] U ∧ va_D (fun _ => True) [(x0, .inr (10, [.ref xTape, .ref xReader, .ref xBag, .ref xBld, .ref xAng, .ref xSum, .ref xPik, .int 0, .ref xHan, .ref xIns, .ref xShr, .ref xSta, .ref xTur])), (xSum, .inr (8, [.ref sM, .ref sP, .ref sA, .int 0])), (xHan, .inr (3, [.int 0, .int 0, .int 0, .ref hH, .ref hR, .ref hT, .ref hM])), (hH, .inl (cI, 7, (.inl fh))), (hT, .inl (cJ, 7, (.inr (.inl ft)))), (hM, .inl (cJ, 6, (.inr (.inl (fun _ => 0)))))] ∧ va_Nw (.methodLinkNest RX3 62 yX10_gcd "ScissorsTable") U)) (va_Qv (fun _ : Unit => True) (fun _ t => va_P (dC, dI) vwCl [(x0, .inr (10, [.ref xTape, .ref xReader, .ref xBag, .ref xBld, .ref xAng, .ref xSum, .ref xPik, .int 0, .ref xHan, .ref xIns, .ref xShr, .ref xSta, .ref xTur])), (xHan, .inr (3, [.int 0, .int 3, .int 1, .ref hH, .ref hR, .ref hT, .ref hM])), (xSum, .inr (8, [.ref sM, .ref sP, .ref sA, .int 0])), (hH, .inl (cI, 7, (.inl (upd (upd (upd fh (0 : Int32).toNatClampNeg 0) (0 : Int32).toNatClampNeg 1) (0 : Int32).toNatClampNeg 3)))), (hT, .inl (cJ, 7, (.inr (.inl (vp_updL (vp_updL (vp_updL ft (0 : Int32).toNatClampNeg 1) (0 : Int32).toNatClampNeg 1) (0 : Int32).toNatClampNeg 1))))), (hM, .inl (cJ, 6, (.inr (.inl (vp_updL (fun _ => 0) (0 : Int32).toNatClampNeg 1)))))] t.heap ∧ va_K (dC, dI) vwCl [(cB, .byte), (cI, .int), (cJ, .long)] t ∧ va_D (va_A [(x0, .inr (10, [.ref xTape, .ref xReader, .ref xBag, .ref xBld, .ref xAng, .ref xSum, .ref xPik, .int 0, .ref xHan, .ref xIns, .ref xShr, .ref xSta, .ref xTur])), (xSum, .inr (8, [.ref sM, .ref sP, .ref sA, .int 0])), (xHan, .inr (3, [.int 0, .int 0, .int 0, .ref hH, .ref hR, .ref hT, .ref hM])), (hH, .inl (cI, 7, (.inl fh))), (hT, .inl (cJ, 7, (.inr (.inl ft)))), (hM, .inl (cJ, 6, (.inr (.inl (fun _ => 0)))))] sz) [(x0, .inr (10, [.ref xTape, .ref xReader, .ref xBag, .ref xBld, .ref xAng, .ref xSum, .ref xPik, .int 0, .ref xHan, .ref xIns, .ref xShr, .ref xSta, .ref xTur])), (xHan, .inr (3, [.int 0, .int 3, .int 1, .ref hH, .ref hR, .ref hT, .ref hM])), (xSum, .inr (8, [.ref sM, .ref sP, .ref sA, .int 0])), (hH, .inl (cI, 7, (.inl (upd (upd (upd fh (0 : Int32).toNatClampNeg 0) (0 : Int32).toNatClampNeg 1) (0 : Int32).toNatClampNeg 3)))), (hT, .inl (cJ, 7, (.inr (.inl (vp_updL (vp_updL (vp_updL ft (0 : Int32).toNatClampNeg 1) (0 : Int32).toNatClampNeg 1) (0 : Int32).toNatClampNeg 1))))), (hM, .inl (cJ, 6, (.inr (.inl (vp_updL (fun _ => 0) (0 : Int32).toNatClampNeg 1)))))]) (va_A [(x0, .inr (10, [.ref xTape, .ref xReader, .ref xBag, .ref xBld, .ref xAng, .ref xSum, .ref xPik, .int 0, .ref xHan, .ref xIns, .ref xShr, .ref xSta, .ref xTur])), (xSum, .inr (8, [.ref sM, .ref sP, .ref sA, .int 0])), (xHan, .inr (3, [.int 0, .int 0, .int 0, .ref hH, .ref hR, .ref hT, .ref hM])), (hH, .inl (cI, 7, (.inl fh))), (hT, .inl (cJ, 7, (.inr (.inl ft)))), (hM, .inl (cJ, 6, (.inr (.inl (fun _ => 0)))))] sz)) 0 0 (va_A [(x0, .inr (10, [.ref xTape, .ref xReader, .ref xBag, .ref xBld, .ref xAng, .ref xSum, .ref xPik, .int 0, .ref xHan, .ref xIns, .ref xShr, .ref xSta, .ref xTur])), (xSum, .inr (8, [.ref sM, .ref sP, .ref sA, .int 0])), (xHan, .inr (3, [.int 0, .int 0, .int 0, .ref hH, .ref hR, .ref hT, .ref hM])), (hH, .inl (cI, 7, (.inl fh))), (hT, .inl (cJ, 7, (.inr (.inl ft)))), (hM, .inl (cJ, 6, (.inr (.inl (fun _ => 0)))))] sz) := by
  refine Met.ofW (cc := cX10_hangSolids) (maxL := 3) (ret := none) (by decide) rfl ?_
  intro p e s m args below meth c s₁ B hml hv
  obtain ⟨rfl, hsz, hP, hK, hD0, hN0⟩ := hv
  have hx := B.exec
  have hb := B.bytes
  have hr := B.returns
  have hts := atoms_spec (ws := wsX10_hangSolids) B.pre
  have hown : s.vm.findClass RX10 = some m.cls := findClass_of_methodNamed B.named
  have hlocks := B.notSynchronized
  have hiX10 : ∀ w ∈ u_ws RX10 TX10 13, w ∈ wsX10_hangSolids := by decide +kernel
  subst hsz
  have hD := hD0.self (sz := s.heap.size)
  generalize hAe : va_A [(x0, .inr (10, [.ref xTape, .ref xReader, .ref xBag, .ref xBld, .ref xAng, .ref xSum, .ref xPik, .int 0, .ref xHan, .ref xIns, .ref xShr, .ref xSta, .ref xTur])), (xSum, .inr (8, [.ref sM, .ref sP, .ref sA, .int 0])), (xHan, .inr (3, [.int 0, .int 0, .int 0, .ref hH, .ref hR, .ref hT, .ref hM])), (hH, .inl (cI, 7, (.inl fh))), (hT, .inl (cJ, 7, (.inr (.inl ft)))), (hM, .inl (cJ, 6, (.inr (.inl (fun _ => 0)))))] s.heap.size = A at hD ⊢
  have hA : ∀ q : Nat, s.heap.size ≤ q → A q := fun q h => by rw [← hAe]; exact Or.inr h
  have hS : va_S A s.heap s.heap [] := va_S.rf
  have hP : va_P (dC, dI) vwCl [(x0, .inr (10, [.ref xTape, .ref xReader, .ref xBag, .ref xBld, .ref xAng, .ref xSum, .ref xPik, .int 0, .ref xHan, .ref xIns, .ref xShr, .ref xSta, .ref xTur])), (xSum, .inr (8, [.ref sM, .ref sP, .ref sA, .int 0])), (xHan, .inr (3, [.int 0, .int 0, .int 0, .ref hH, .ref hR, .ref hT, .ref hM])), (hH, .inl (cI, 7, (.inl fh))), (hT, .inl (cJ, 7, (.inr (.inl ft)))), (hM, .inl (cJ, 6, (.inr (.inl (fun _ => 0)))))] s.heap := hP
  have hl := lv_entry ([.ref x0, .int 11]) (n := 3) (Nat.le_of_ble_eq_true rfl)
  rw [lg_entry_eq]
  generalize (lg_sl ([.ref x0, .int 11]) ++ List.replicate (3 - (lg_sl ([.ref x0, .int 11])).length) Slot.unset).toArray = ls at hl ⊢
  have hl : lv_has ls 3 [(0, .ref x0), (1, .int 11)] := hl
  refine lv_aload_n hx hb dX10_hangSolids_0 rfl (lv_at hl 0 rfl) ?_
  refine va_get (D := (dC, dI)) (ci := 10) (v := .ref xHan) (C := RX10) (T := TX10) (N := 13) hx hb hts hiX10 hown hK hP 0 rfl rfl 8 (by decide) (hts (.fieldLink RX10 61 "ScissorsTable" "hang" "LScissorsTable$Hang;") (by decide +kernel)) (fun _ h9 => h9) rfl dX10_hangSolids_1 ?_
  have hPc := hP.sub (ws' := [(xHan, .inr (3, [.int 0, .int 0, .int 0, .ref hH, .ref hR, .ref hT, .ref hM]))]) [2] rfl
  have hDc := hD.sub (ws' := [(xHan, .inr (3, [.int 0, .int 0, .int 0, .ref hH, .ref hR, .ref hT, .ref hM]))]) [2] (by decide) rfl
  have hFc := va_free (wc := [(xHan, .inr (3, [.int 0, .int 0, .int 0, .ref hH, .ref hR, .ref hT, .ref hM]))]) hD hS hA [2] rfl
  refine va_callv (va_runV (As := []) (rest := []) ⟨hx, hb, hml, hown, hts⟩ (c_X3_begin l dC dI cB cI cJ s.heap.size xHan hH hR hT hM) (cwV 0 hts gX10_hangSolids_X3_begin rfl rfl rfl (by decide +kernel) ⟨Nat.le_of_ble_eq_true rfl, Nat.le_of_ble_eq_true rfl⟩) ⟨fun a U g mk q => by obtain ⟨q0, q1, qP, qK, qD⟩ := q; exact ⟨q0, q1, qP, va_K.moved (u := U) (U := U.calling g mk a) (Vm.Alike.refl U.vm) qK, qD⟩, va_recv hK hP (ci := 3) (q0 := 2) rfl rfl, fun U hU hW => ⟨rfl, by rw [hU], by rw [hU]; exact hPc, va_K.moved hW.alike hK, hDc.weaken (fun _ _ _ _ => trivial)⟩⟩ rfl rfl hl.1 rfl (lv_room (Nat.le_of_ble_eq_true rfl)) dX10_hangSolids_4 ⟨Nat.le_of_ble_eq_true rfl, Nat.le_of_ble_eq_true rfl⟩) hS (fun q _ h => hFc q h) hFc (fun u t H1 locs ht hvm hw hB hz1 hk1 hS => ?_)
  obtain ⟨hP1, hK1, hD1⟩ := hB
  rw [ht] at hP1
  obtain ⟨hP, hD⟩ := va_join (wr := [(x0, .inr (10, [.ref xTape, .ref xReader, .ref xBag, .ref xBld, .ref xAng, .ref xSum, .ref xPik, .int 0, .ref xHan, .ref xIns, .ref xShr, .ref xSta, .ref xTur])), (xSum, .inr (8, [.ref sM, .ref sP, .ref sA, .int 0])), (hH, .inl (cI, 7, (.inl fh))), (hT, .inl (cJ, 7, (.inr (.inl ft)))), (hM, .inl (cJ, 6, (.inr (.inl (fun _ => 0)))))]) (w1 := [(xHan, .inr (3, [.int 0, .int 0, .int 0, .ref hH, .ref hR, .ref hT, .ref hM]))]) hP hD [2] [0, 1, 3, 4, 5] rfl rfl (by decide) (by decide) hk1 hFc hP1 hD1
  generalize H1 = H at hP hS ⊢
  have hP : va_P (dC, dI) vwCl [(x0, .inr (10, [.ref xTape, .ref xReader, .ref xBag, .ref xBld, .ref xAng, .ref xSum, .ref xPik, .int 0, .ref xHan, .ref xIns, .ref xShr, .ref xSta, .ref xTur])), (xSum, .inr (8, [.ref sM, .ref sP, .ref sA, .int 0])), (hH, .inl (cI, 7, (.inl fh))), (hT, .inl (cJ, 7, (.inr (.inl ft)))), (hM, .inl (cJ, 6, (.inr (.inl (fun _ => 0))))), (xHan, .inr (3, [.int 0, .int 0, .int 0, .ref hH, .ref hR, .ref hT, .ref hM]))] H := hP
  have hD : va_D A [(x0, .inr (10, [.ref xTape, .ref xReader, .ref xBag, .ref xBld, .ref xAng, .ref xSum, .ref xPik, .int 0, .ref xHan, .ref xIns, .ref xShr, .ref xSta, .ref xTur])), (xSum, .inr (8, [.ref sM, .ref sP, .ref sA, .int 0])), (hH, .inl (cI, 7, (.inl fh))), (hT, .inl (cJ, 7, (.inr (.inl ft)))), (hM, .inl (cJ, 6, (.inr (.inl (fun _ => 0))))), (xHan, .inr (3, [.int 0, .int 0, .int 0, .ref hH, .ref hR, .ref hT, .ref hM]))] := hD
  refine lv_iconst (v := 0) hx hb dX10_hangSolids_7 (by decide) ?_
  refine lv_istore_n (lv' := [(2, .int 0), (0, .ref x0), (1, .int 11)]) hx hb dX10_hangSolids_8 rfl hl (by decide) rfl (fun ls hl => ?_)
  refine lv_iload_n hx hb dX10_hangSolids_9 rfl (lv_at hl 0 rfl) ?_
  refine lv_iconst (v := 4) hx hb dX10_hangSolids_10 (by decide) ?_
  refine lv_icmp_ge (tgt := 41) hx hb dX10_hangSolids_11 (by decide) (fun c => absurd c (by decide)) (fun _ => ?_)
  refine lv_iload_n hx hb dX10_hangSolids_14 rfl (lv_at hl 2 rfl) ?_
  refine lv_iload_n hx hb dX10_hangSolids_15 rfl (lv_at hl 0 rfl) ?_
  refine lv_ishr hx hb dX10_hangSolids_16 ?_
  refine lv_topi (fun x_1 ex_1 => ?_)
  obtain rfl : x_1 = 11 := ex_1.trans (by first | rfl | decide)
  refine lv_iconst (v := 1) hx hb dX10_hangSolids_17 (by decide) ?_
  refine lv_iand hx hb dX10_hangSolids_18 ?_
  refine lv_topi (fun x_2 ex_2 => ?_)
  obtain rfl : x_2 = 1 := ex_2.trans (by first | rfl | decide)
  refine lv_iconst (v := 1) hx hb dX10_hangSolids_19 (by decide) ?_
  refine lv_icmp_ne (tgt := 35) hx hb dX10_hangSolids_20 (by decide) (fun c => absurd (by decide) c) (fun _ => ?_)
  refine lv_aload_n hx hb dX10_hangSolids_23 rfl (lv_at hl 1 rfl) ?_
  refine va_get (D := (dC, dI)) (ci := 10) (v := .ref xHan) (C := RX10) (T := TX10) (N := 13) hx hb hts hiX10 hown hK hP 0 rfl rfl 8 (by decide) (hts (.fieldLink RX10 61 "ScissorsTable" "hang" "LScissorsTable$Hang;") (by decide +kernel)) (fun _ h9 => h9) rfl dX10_hangSolids_24 ?_
  refine lv_aload_n hx hb dX10_hangSolids_27 rfl (lv_at hl 1 rfl) ?_
  refine va_get (D := (dC, dI)) (ci := 10) (v := .ref xSum) (C := RX10) (T := TX10) (N := 13) hx hb hts hiX10 hown hK hP 0 rfl rfl 5 (by decide) (hts (.fieldLink RX10 51 "ScissorsTable" "sums" "LScissorsTable$Sums;") (by decide +kernel)) (fun _ h9 => h9) rfl dX10_hangSolids_28 ?_
  refine lv_iload_n hx hb dX10_hangSolids_31 rfl (lv_at hl 0 rfl) ?_
  have hPc := hP.sub (ws' := [(xSum, .inr (8, [.ref sM, .ref sP, .ref sA, .int 0])), (xHan, .inr (3, [.int 0, .int 0, .int 0, .ref hH, .ref hR, .ref hT, .ref hM])), (hH, .inl (cI, 7, (.inl fh))), (hT, .inl (cJ, 7, (.inr (.inl ft)))), (hM, .inl (cJ, 6, (.inr (.inl (fun _ => 0)))))]) [1, 5, 2, 3, 4] rfl
  have hDc := hD.sub (ws' := [(xSum, .inr (8, [.ref sM, .ref sP, .ref sA, .int 0])), (xHan, .inr (3, [.int 0, .int 0, .int 0, .ref hH, .ref hR, .ref hT, .ref hM])), (hH, .inl (cI, 7, (.inl fh))), (hT, .inl (cJ, 7, (.inr (.inl ft)))), (hM, .inl (cJ, 6, (.inr (.inl (fun _ => 0)))))]) [1, 5, 2, 3, 4] (by decide) rfl
  have hFc := va_free (wc := [(xSum, .inr (8, [.ref sM, .ref sP, .ref sA, .int 0])), (xHan, .inr (3, [.int 0, .int 0, .int 0, .ref hH, .ref hR, .ref hT, .ref hM])), (hH, .inl (cI, 7, (.inl fh))), (hT, .inl (cJ, 7, (.inr (.inl ft)))), (hM, .inl (cJ, 6, (.inr (.inl (fun _ => 0)))))]) hD hS hA [1, 5, 2, 3, 4] rfl
  refine va_callv (va_runV (As := [.ref xSum, .int 0]) (rest := []) ⟨hx, hb, hml, hown, hts⟩ (c_X3_next_t0 l dC dI cB cI cJ H.size xSum sM sP sA xHan hH hR hT hM 0 fh ft) (cwV 2 hts gX10_hangSolids_X3_next rfl rfl rfl (by decide +kernel) ⟨Nat.le_of_ble_eq_true rfl, Nat.le_of_ble_eq_true rfl⟩) ⟨fun a U g mk q => by obtain ⟨q0, q1, qP, qK, qD, qN0⟩ := q; exact ⟨q0, q1, qP, va_K.moved (u := U) (U := U.calling g mk a) (Vm.Alike.refl U.vm) qK, qD, va_Nw.same rfl rfl qN0⟩, va_recv hK hP (ci := 3) (q0 := 5) rfl rfl, fun U hU hW => ⟨rfl, by rw [hU], by rw [hU]; exact hPc, va_K.moved hW.alike hK, hDc.weaken (fun _ _ _ _ => trivial), va_Nw.warmM hW hN0⟩⟩ rfl rfl hl.1 rfl (lv_room (Nat.le_of_ble_eq_true rfl)) dX10_hangSolids_32 ⟨Nat.le_of_ble_eq_true rfl, Nat.le_of_ble_eq_true rfl⟩) hS (fun q _ h => hFc q h) hFc (fun u t H1 locs ht hvm hw hB hz1 hk1 hS => ?_)
  obtain ⟨hP1, hK1, hD1⟩ := hB
  rw [ht] at hP1
  obtain ⟨hP, hD⟩ := va_join (wr := [(x0, .inr (10, [.ref xTape, .ref xReader, .ref xBag, .ref xBld, .ref xAng, .ref xSum, .ref xPik, .int 0, .ref xHan, .ref xIns, .ref xShr, .ref xSta, .ref xTur]))]) (w1 := [(xHan, .inr (3, [.int 0, .int 1, .int 1, .ref hH, .ref hR, .ref hT, .ref hM])), (xSum, .inr (8, [.ref sM, .ref sP, .ref sA, .int 0])), (hH, .inl (cI, 7, (.inl (upd fh (0 : Int32).toNatClampNeg 0)))), (hT, .inl (cJ, 7, (.inr (.inl (vp_updL ft (0 : Int32).toNatClampNeg 1))))), (hM, .inl (cJ, 6, (.inr (.inl (vp_updL (fun _ => 0) (0 : Int32).toNatClampNeg 1)))))]) hP hD [1, 5, 2, 3, 4] [0] rfl rfl (by decide) (by decide) hk1 hFc hP1 hD1
  generalize H1 = H at hP hS ⊢
  have hP : va_P (dC, dI) vwCl [(x0, .inr (10, [.ref xTape, .ref xReader, .ref xBag, .ref xBld, .ref xAng, .ref xSum, .ref xPik, .int 0, .ref xHan, .ref xIns, .ref xShr, .ref xSta, .ref xTur])), (xHan, .inr (3, [.int 0, .int 1, .int 1, .ref hH, .ref hR, .ref hT, .ref hM])), (xSum, .inr (8, [.ref sM, .ref sP, .ref sA, .int 0])), (hH, .inl (cI, 7, (.inl (upd fh (0 : Int32).toNatClampNeg 0)))), (hT, .inl (cJ, 7, (.inr (.inl (vp_updL ft (0 : Int32).toNatClampNeg 1))))), (hM, .inl (cJ, 6, (.inr (.inl (vp_updL (fun _ => 0) (0 : Int32).toNatClampNeg 1)))))] H := hP
  have hD : va_D A [(x0, .inr (10, [.ref xTape, .ref xReader, .ref xBag, .ref xBld, .ref xAng, .ref xSum, .ref xPik, .int 0, .ref xHan, .ref xIns, .ref xShr, .ref xSta, .ref xTur])), (xHan, .inr (3, [.int 0, .int 1, .int 1, .ref hH, .ref hR, .ref hT, .ref hM])), (xSum, .inr (8, [.ref sM, .ref sP, .ref sA, .int 0])), (hH, .inl (cI, 7, (.inl (upd fh (0 : Int32).toNatClampNeg 0)))), (hT, .inl (cJ, 7, (.inr (.inl (vp_updL ft (0 : Int32).toNatClampNeg 1))))), (hM, .inl (cJ, 6, (.inr (.inl (vp_updL (fun _ => 0) (0 : Int32).toNatClampNeg 1)))))] := hD
  refine lv_iinc (v := 1) (lv' := [(2, .int 1), (0, .ref x0), (1, .int 11)]) hx hb dX10_hangSolids_35 hl (k := 0) rfl (by decide) (by decide) rfl (fun ls hl => ?_)
  refine lv_goto (tgt := 9) hx hb dX10_hangSolids_38 (by decide) ?_
  refine lv_iload_n hx hb dX10_hangSolids_9 rfl (lv_at hl 0 rfl) ?_
  refine lv_iconst (v := 4) hx hb dX10_hangSolids_10 (by decide) ?_
  refine lv_icmp_ge (tgt := 41) hx hb dX10_hangSolids_11 (by decide) (fun c => absurd c (by decide)) (fun _ => ?_)
  refine lv_iload_n hx hb dX10_hangSolids_14 rfl (lv_at hl 2 rfl) ?_
  refine lv_iload_n hx hb dX10_hangSolids_15 rfl (lv_at hl 0 rfl) ?_
  refine lv_ishr hx hb dX10_hangSolids_16 ?_
  refine lv_topi (fun x_3 ex_3 => ?_)
  obtain rfl : x_3 = 5 := ex_3.trans (by first | rfl | decide)
  refine lv_iconst (v := 1) hx hb dX10_hangSolids_17 (by decide) ?_
  refine lv_iand hx hb dX10_hangSolids_18 ?_
  refine lv_topi (fun x_4 ex_4 => ?_)
  obtain rfl : x_4 = 1 := ex_4.trans (by first | rfl | decide)
  refine lv_iconst (v := 1) hx hb dX10_hangSolids_19 (by decide) ?_
  refine lv_icmp_ne (tgt := 35) hx hb dX10_hangSolids_20 (by decide) (fun c => absurd (by decide) c) (fun _ => ?_)
  refine lv_aload_n hx hb dX10_hangSolids_23 rfl (lv_at hl 1 rfl) ?_
  refine va_get (D := (dC, dI)) (ci := 10) (v := .ref xHan) (C := RX10) (T := TX10) (N := 13) hx hb hts hiX10 hown hK hP 0 rfl rfl 8 (by decide) (hts (.fieldLink RX10 61 "ScissorsTable" "hang" "LScissorsTable$Hang;") (by decide +kernel)) (fun _ h9 => h9) rfl dX10_hangSolids_24 ?_
  refine lv_aload_n hx hb dX10_hangSolids_27 rfl (lv_at hl 1 rfl) ?_
  refine va_get (D := (dC, dI)) (ci := 10) (v := .ref xSum) (C := RX10) (T := TX10) (N := 13) hx hb hts hiX10 hown hK hP 0 rfl rfl 5 (by decide) (hts (.fieldLink RX10 51 "ScissorsTable" "sums" "LScissorsTable$Sums;") (by decide +kernel)) (fun _ h9 => h9) rfl dX10_hangSolids_28 ?_
  refine lv_iload_n hx hb dX10_hangSolids_31 rfl (lv_at hl 0 rfl) ?_
  have hPc := hP.sub (ws' := [(xSum, .inr (8, [.ref sM, .ref sP, .ref sA, .int 0])), (xHan, .inr (3, [.int 0, .int 1, .int 1, .ref hH, .ref hR, .ref hT, .ref hM])), (hH, .inl (cI, 7, (.inl (upd fh (0 : Int32).toNatClampNeg 0)))), (hT, .inl (cJ, 7, (.inr (.inl (vp_updL ft (0 : Int32).toNatClampNeg 1)))))]) [2, 1, 3, 4] rfl
  have hDc := hD.sub (ws' := [(xSum, .inr (8, [.ref sM, .ref sP, .ref sA, .int 0])), (xHan, .inr (3, [.int 0, .int 1, .int 1, .ref hH, .ref hR, .ref hT, .ref hM])), (hH, .inl (cI, 7, (.inl (upd fh (0 : Int32).toNatClampNeg 0)))), (hT, .inl (cJ, 7, (.inr (.inl (vp_updL ft (0 : Int32).toNatClampNeg 1)))))]) [2, 1, 3, 4] (by decide) rfl
  have hFc := va_free (wc := [(xSum, .inr (8, [.ref sM, .ref sP, .ref sA, .int 0])), (xHan, .inr (3, [.int 0, .int 1, .int 1, .ref hH, .ref hR, .ref hT, .ref hM])), (hH, .inl (cI, 7, (.inl (upd fh (0 : Int32).toNatClampNeg 0)))), (hT, .inl (cJ, 7, (.inr (.inl (vp_updL ft (0 : Int32).toNatClampNeg 1)))))]) hD hS hA [2, 1, 3, 4] rfl
  refine va_callv (va_runV (As := [.ref xSum, .int 1]) (rest := []) ⟨hx, hb, hml, hown, hts⟩ (c_X3_next_t1 l dC dI cB cI cJ H.size xSum sM sP sA xHan hH hR hT hM 1 (upd fh (0 : Int32).toNatClampNeg 0) (vp_updL ft (0 : Int32).toNatClampNeg 1)) (cwV 2 hts gX10_hangSolids_X3_next rfl rfl rfl (by decide +kernel) ⟨Nat.le_of_ble_eq_true rfl, Nat.le_of_ble_eq_true rfl⟩) ⟨fun a U g mk q => by obtain ⟨q0, q1, qP, qK, qD⟩ := q; exact ⟨q0, q1, qP, va_K.moved (u := U) (U := U.calling g mk a) (Vm.Alike.refl U.vm) qK, qD⟩, va_recv hK hP (ci := 3) (q0 := 1) rfl rfl, fun U hU hW => ⟨rfl, by rw [hU], by rw [hU]; exact hPc, va_K.moved hW.alike hK, hDc.weaken (fun _ _ _ _ => trivial)⟩⟩ rfl rfl hl.1 rfl (lv_room (Nat.le_of_ble_eq_true rfl)) dX10_hangSolids_32 ⟨Nat.le_of_ble_eq_true rfl, Nat.le_of_ble_eq_true rfl⟩) hS (fun q _ h => hFc q h) hFc (fun u t H1 locs ht hvm hw hB hz1 hk1 hS => ?_)
  obtain ⟨hP1, hK1, hD1⟩ := hB
  rw [ht] at hP1
  obtain ⟨hP, hD⟩ := va_join (wr := [(x0, .inr (10, [.ref xTape, .ref xReader, .ref xBag, .ref xBld, .ref xAng, .ref xSum, .ref xPik, .int 0, .ref xHan, .ref xIns, .ref xShr, .ref xSta, .ref xTur])), (hM, .inl (cJ, 6, (.inr (.inl (vp_updL (fun _ => 0) (0 : Int32).toNatClampNeg 1)))))]) (w1 := [(xHan, .inr (3, [.int 0, .int 2, .int 1, .ref hH, .ref hR, .ref hT, .ref hM])), (xSum, .inr (8, [.ref sM, .ref sP, .ref sA, .int 0])), (hH, .inl (cI, 7, (.inl (upd (upd fh (0 : Int32).toNatClampNeg 0) (0 : Int32).toNatClampNeg 1)))), (hT, .inl (cJ, 7, (.inr (.inl (vp_updL (vp_updL ft (0 : Int32).toNatClampNeg 1) (0 : Int32).toNatClampNeg 1)))))]) hP hD [2, 1, 3, 4] [0, 5] rfl rfl (by decide) (by decide) hk1 hFc hP1 hD1
  generalize H1 = H at hP hS ⊢
  have hP : va_P (dC, dI) vwCl [(x0, .inr (10, [.ref xTape, .ref xReader, .ref xBag, .ref xBld, .ref xAng, .ref xSum, .ref xPik, .int 0, .ref xHan, .ref xIns, .ref xShr, .ref xSta, .ref xTur])), (hM, .inl (cJ, 6, (.inr (.inl (vp_updL (fun _ => 0) (0 : Int32).toNatClampNeg 1))))), (xHan, .inr (3, [.int 0, .int 2, .int 1, .ref hH, .ref hR, .ref hT, .ref hM])), (xSum, .inr (8, [.ref sM, .ref sP, .ref sA, .int 0])), (hH, .inl (cI, 7, (.inl (upd (upd fh (0 : Int32).toNatClampNeg 0) (0 : Int32).toNatClampNeg 1)))), (hT, .inl (cJ, 7, (.inr (.inl (vp_updL (vp_updL ft (0 : Int32).toNatClampNeg 1) (0 : Int32).toNatClampNeg 1)))))] H := hP
  have hD : va_D A [(x0, .inr (10, [.ref xTape, .ref xReader, .ref xBag, .ref xBld, .ref xAng, .ref xSum, .ref xPik, .int 0, .ref xHan, .ref xIns, .ref xShr, .ref xSta, .ref xTur])), (hM, .inl (cJ, 6, (.inr (.inl (vp_updL (fun _ => 0) (0 : Int32).toNatClampNeg 1))))), (xHan, .inr (3, [.int 0, .int 2, .int 1, .ref hH, .ref hR, .ref hT, .ref hM])), (xSum, .inr (8, [.ref sM, .ref sP, .ref sA, .int 0])), (hH, .inl (cI, 7, (.inl (upd (upd fh (0 : Int32).toNatClampNeg 0) (0 : Int32).toNatClampNeg 1)))), (hT, .inl (cJ, 7, (.inr (.inl (vp_updL (vp_updL ft (0 : Int32).toNatClampNeg 1) (0 : Int32).toNatClampNeg 1)))))] := hD
  refine lv_iinc (v := 2) (lv' := [(2, .int 2), (0, .ref x0), (1, .int 11)]) hx hb dX10_hangSolids_35 hl (k := 0) rfl (by decide) (by decide) rfl (fun ls hl => ?_)
  refine lv_goto (tgt := 9) hx hb dX10_hangSolids_38 (by decide) ?_
  refine lv_iload_n hx hb dX10_hangSolids_9 rfl (lv_at hl 0 rfl) ?_
  refine lv_iconst (v := 4) hx hb dX10_hangSolids_10 (by decide) ?_
  refine lv_icmp_ge (tgt := 41) hx hb dX10_hangSolids_11 (by decide) (fun c => absurd c (by decide)) (fun _ => ?_)
  refine lv_iload_n hx hb dX10_hangSolids_14 rfl (lv_at hl 2 rfl) ?_
  refine lv_iload_n hx hb dX10_hangSolids_15 rfl (lv_at hl 0 rfl) ?_
  refine lv_ishr hx hb dX10_hangSolids_16 ?_
  refine lv_topi (fun x_5 ex_5 => ?_)
  obtain rfl : x_5 = 2 := ex_5.trans (by first | rfl | decide)
  refine lv_iconst (v := 1) hx hb dX10_hangSolids_17 (by decide) ?_
  refine lv_iand hx hb dX10_hangSolids_18 ?_
  refine lv_topi (fun x_6 ex_6 => ?_)
  obtain rfl : x_6 = 0 := ex_6.trans (by first | rfl | decide)
  refine lv_iconst (v := 1) hx hb dX10_hangSolids_19 (by decide) ?_
  refine lv_icmp_ne (tgt := 35) hx hb dX10_hangSolids_20 (by decide) (fun _ => ?_) (fun c => absurd c (by decide))
  refine lv_iinc (v := 3) (lv' := [(2, .int 3), (0, .ref x0), (1, .int 11)]) hx hb dX10_hangSolids_35 hl (k := 0) rfl (by decide) (by decide) rfl (fun ls hl => ?_)
  refine lv_goto (tgt := 9) hx hb dX10_hangSolids_38 (by decide) ?_
  refine lv_iload_n hx hb dX10_hangSolids_9 rfl (lv_at hl 0 rfl) ?_
  refine lv_iconst (v := 4) hx hb dX10_hangSolids_10 (by decide) ?_
  refine lv_icmp_ge (tgt := 41) hx hb dX10_hangSolids_11 (by decide) (fun c => absurd c (by decide)) (fun _ => ?_)
  refine lv_iload_n hx hb dX10_hangSolids_14 rfl (lv_at hl 2 rfl) ?_
  refine lv_iload_n hx hb dX10_hangSolids_15 rfl (lv_at hl 0 rfl) ?_
  refine lv_ishr hx hb dX10_hangSolids_16 ?_
  refine lv_topi (fun x_7 ex_7 => ?_)
  obtain rfl : x_7 = 1 := ex_7.trans (by first | rfl | decide)
  refine lv_iconst (v := 1) hx hb dX10_hangSolids_17 (by decide) ?_
  refine lv_iand hx hb dX10_hangSolids_18 ?_
  refine lv_topi (fun x_8 ex_8 => ?_)
  obtain rfl : x_8 = 1 := ex_8.trans (by first | rfl | decide)
  refine lv_iconst (v := 1) hx hb dX10_hangSolids_19 (by decide) ?_
  refine lv_icmp_ne (tgt := 35) hx hb dX10_hangSolids_20 (by decide) (fun c => absurd (by decide) c) (fun _ => ?_)
  refine lv_aload_n hx hb dX10_hangSolids_23 rfl (lv_at hl 1 rfl) ?_
  refine va_get (D := (dC, dI)) (ci := 10) (v := .ref xHan) (C := RX10) (T := TX10) (N := 13) hx hb hts hiX10 hown hK hP 0 rfl rfl 8 (by decide) (hts (.fieldLink RX10 61 "ScissorsTable" "hang" "LScissorsTable$Hang;") (by decide +kernel)) (fun _ h9 => h9) rfl dX10_hangSolids_24 ?_
  refine lv_aload_n hx hb dX10_hangSolids_27 rfl (lv_at hl 1 rfl) ?_
  refine va_get (D := (dC, dI)) (ci := 10) (v := .ref xSum) (C := RX10) (T := TX10) (N := 13) hx hb hts hiX10 hown hK hP 0 rfl rfl 5 (by decide) (hts (.fieldLink RX10 51 "ScissorsTable" "sums" "LScissorsTable$Sums;") (by decide +kernel)) (fun _ h9 => h9) rfl dX10_hangSolids_28 ?_
  refine lv_iload_n hx hb dX10_hangSolids_31 rfl (lv_at hl 0 rfl) ?_
  have hPc := hP.sub (ws' := [(xSum, .inr (8, [.ref sM, .ref sP, .ref sA, .int 0])), (xHan, .inr (3, [.int 0, .int 2, .int 1, .ref hH, .ref hR, .ref hT, .ref hM])), (hH, .inl (cI, 7, (.inl (upd (upd fh (0 : Int32).toNatClampNeg 0) (0 : Int32).toNatClampNeg 1)))), (hT, .inl (cJ, 7, (.inr (.inl (vp_updL (vp_updL ft (0 : Int32).toNatClampNeg 1) (0 : Int32).toNatClampNeg 1)))))]) [3, 2, 4, 5] rfl
  have hDc := hD.sub (ws' := [(xSum, .inr (8, [.ref sM, .ref sP, .ref sA, .int 0])), (xHan, .inr (3, [.int 0, .int 2, .int 1, .ref hH, .ref hR, .ref hT, .ref hM])), (hH, .inl (cI, 7, (.inl (upd (upd fh (0 : Int32).toNatClampNeg 0) (0 : Int32).toNatClampNeg 1)))), (hT, .inl (cJ, 7, (.inr (.inl (vp_updL (vp_updL ft (0 : Int32).toNatClampNeg 1) (0 : Int32).toNatClampNeg 1)))))]) [3, 2, 4, 5] (by decide) rfl
  have hFc := va_free (wc := [(xSum, .inr (8, [.ref sM, .ref sP, .ref sA, .int 0])), (xHan, .inr (3, [.int 0, .int 2, .int 1, .ref hH, .ref hR, .ref hT, .ref hM])), (hH, .inl (cI, 7, (.inl (upd (upd fh (0 : Int32).toNatClampNeg 0) (0 : Int32).toNatClampNeg 1)))), (hT, .inl (cJ, 7, (.inr (.inl (vp_updL (vp_updL ft (0 : Int32).toNatClampNeg 1) (0 : Int32).toNatClampNeg 1)))))]) hD hS hA [3, 2, 4, 5] rfl
  refine va_callv (va_runV (As := [.ref xSum, .int 3]) (rest := []) ⟨hx, hb, hml, hown, hts⟩ (c_X3_next_t2 l dC dI cB cI cJ H.size xSum sM sP sA xHan hH hR hT hM 3 (upd (upd fh (0 : Int32).toNatClampNeg 0) (0 : Int32).toNatClampNeg 1) (vp_updL (vp_updL ft (0 : Int32).toNatClampNeg 1) (0 : Int32).toNatClampNeg 1)) (cwV 2 hts gX10_hangSolids_X3_next rfl rfl rfl (by decide +kernel) ⟨Nat.le_of_ble_eq_true rfl, Nat.le_of_ble_eq_true rfl⟩) ⟨fun a U g mk q => by obtain ⟨q0, q1, qP, qK, qD⟩ := q; exact ⟨q0, q1, qP, va_K.moved (u := U) (U := U.calling g mk a) (Vm.Alike.refl U.vm) qK, qD⟩, va_recv hK hP (ci := 3) (q0 := 2) rfl rfl, fun U hU hW => ⟨rfl, by rw [hU], by rw [hU]; exact hPc, va_K.moved hW.alike hK, hDc.weaken (fun _ _ _ _ => trivial)⟩⟩ rfl rfl hl.1 rfl (lv_room (Nat.le_of_ble_eq_true rfl)) dX10_hangSolids_32 ⟨Nat.le_of_ble_eq_true rfl, Nat.le_of_ble_eq_true rfl⟩) hS (fun q _ h => hFc q h) hFc (fun u t H1 locs ht hvm hw hB hz1 hk1 hS => ?_)
  obtain ⟨hP1, hK1, hD1⟩ := hB
  rw [ht] at hP1
  obtain ⟨hP, hD⟩ := va_join (wr := [(x0, .inr (10, [.ref xTape, .ref xReader, .ref xBag, .ref xBld, .ref xAng, .ref xSum, .ref xPik, .int 0, .ref xHan, .ref xIns, .ref xShr, .ref xSta, .ref xTur])), (hM, .inl (cJ, 6, (.inr (.inl (vp_updL (fun _ => 0) (0 : Int32).toNatClampNeg 1)))))]) (w1 := [(xHan, .inr (3, [.int 0, .int 3, .int 1, .ref hH, .ref hR, .ref hT, .ref hM])), (xSum, .inr (8, [.ref sM, .ref sP, .ref sA, .int 0])), (hH, .inl (cI, 7, (.inl (upd (upd (upd fh (0 : Int32).toNatClampNeg 0) (0 : Int32).toNatClampNeg 1) (0 : Int32).toNatClampNeg 3)))), (hT, .inl (cJ, 7, (.inr (.inl (vp_updL (vp_updL (vp_updL ft (0 : Int32).toNatClampNeg 1) (0 : Int32).toNatClampNeg 1) (0 : Int32).toNatClampNeg 1)))))]) hP hD [3, 2, 4, 5] [0, 1] rfl rfl (by decide) (by decide) hk1 hFc hP1 hD1
  generalize H1 = H at hP hS ⊢
  have hP : va_P (dC, dI) vwCl [(x0, .inr (10, [.ref xTape, .ref xReader, .ref xBag, .ref xBld, .ref xAng, .ref xSum, .ref xPik, .int 0, .ref xHan, .ref xIns, .ref xShr, .ref xSta, .ref xTur])), (hM, .inl (cJ, 6, (.inr (.inl (vp_updL (fun _ => 0) (0 : Int32).toNatClampNeg 1))))), (xHan, .inr (3, [.int 0, .int 3, .int 1, .ref hH, .ref hR, .ref hT, .ref hM])), (xSum, .inr (8, [.ref sM, .ref sP, .ref sA, .int 0])), (hH, .inl (cI, 7, (.inl (upd (upd (upd fh (0 : Int32).toNatClampNeg 0) (0 : Int32).toNatClampNeg 1) (0 : Int32).toNatClampNeg 3)))), (hT, .inl (cJ, 7, (.inr (.inl (vp_updL (vp_updL (vp_updL ft (0 : Int32).toNatClampNeg 1) (0 : Int32).toNatClampNeg 1) (0 : Int32).toNatClampNeg 1)))))] H := hP
  have hD : va_D A [(x0, .inr (10, [.ref xTape, .ref xReader, .ref xBag, .ref xBld, .ref xAng, .ref xSum, .ref xPik, .int 0, .ref xHan, .ref xIns, .ref xShr, .ref xSta, .ref xTur])), (hM, .inl (cJ, 6, (.inr (.inl (vp_updL (fun _ => 0) (0 : Int32).toNatClampNeg 1))))), (xHan, .inr (3, [.int 0, .int 3, .int 1, .ref hH, .ref hR, .ref hT, .ref hM])), (xSum, .inr (8, [.ref sM, .ref sP, .ref sA, .int 0])), (hH, .inl (cI, 7, (.inl (upd (upd (upd fh (0 : Int32).toNatClampNeg 0) (0 : Int32).toNatClampNeg 1) (0 : Int32).toNatClampNeg 3)))), (hT, .inl (cJ, 7, (.inr (.inl (vp_updL (vp_updL (vp_updL ft (0 : Int32).toNatClampNeg 1) (0 : Int32).toNatClampNeg 1) (0 : Int32).toNatClampNeg 1)))))] := hD
  refine lv_iinc (v := 4) (lv' := [(2, .int 4), (0, .ref x0), (1, .int 11)]) hx hb dX10_hangSolids_35 hl (k := 0) rfl (by decide) (by decide) rfl (fun ls hl => ?_)
  refine lv_goto (tgt := 9) hx hb dX10_hangSolids_38 (by decide) ?_
  refine lv_iload_n hx hb dX10_hangSolids_9 rfl (lv_at hl 0 rfl) ?_
  refine lv_iconst (v := 4) hx hb dX10_hangSolids_10 (by decide) ?_
  refine lv_icmp_ge (tgt := 41) hx hb dX10_hangSolids_11 (by decide) (fun _ => ?_) (fun c => absurd (by decide) c)
  have hP9 := hP.sub (ws' := [(x0, .inr (10, [.ref xTape, .ref xReader, .ref xBag, .ref xBld, .ref xAng, .ref xSum, .ref xPik, .int 0, .ref xHan, .ref xIns, .ref xShr, .ref xSta, .ref xTur])), (xHan, .inr (3, [.int 0, .int 3, .int 1, .ref hH, .ref hR, .ref hT, .ref hM])), (xSum, .inr (8, [.ref sM, .ref sP, .ref sA, .int 0])), (hH, .inl (cI, 7, (.inl (upd (upd (upd fh (0 : Int32).toNatClampNeg 0) (0 : Int32).toNatClampNeg 1) (0 : Int32).toNatClampNeg 3)))), (hT, .inl (cJ, 7, (.inr (.inl (vp_updL (vp_updL (vp_updL ft (0 : Int32).toNatClampNeg 1) (0 : Int32).toNatClampNeg 1) (0 : Int32).toNatClampNeg 1))))), (hM, .inl (cJ, 6, (.inr (.inl (vp_updL (fun _ => 0) (0 : Int32).toNatClampNeg 1)))))]) [0, 2, 3, 4, 5, 1] rfl
  have hD9 := hD.sub (ws' := [(x0, .inr (10, [.ref xTape, .ref xReader, .ref xBag, .ref xBld, .ref xAng, .ref xSum, .ref xPik, .int 0, .ref xHan, .ref xIns, .ref xShr, .ref xSta, .ref xTur])), (xHan, .inr (3, [.int 0, .int 3, .int 1, .ref hH, .ref hR, .ref hT, .ref hM])), (xSum, .inr (8, [.ref sM, .ref sP, .ref sA, .int 0])), (hH, .inl (cI, 7, (.inl (upd (upd (upd fh (0 : Int32).toNatClampNeg 0) (0 : Int32).toNatClampNeg 1) (0 : Int32).toNatClampNeg 3)))), (hT, .inl (cJ, 7, (.inr (.inl (vp_updL (vp_updL (vp_updL ft (0 : Int32).toNatClampNeg 1) (0 : Int32).toNatClampNeg 1) (0 : Int32).toNatClampNeg 1))))), (hM, .inl (cJ, 6, (.inr (.inl (vp_updL (fun _ => 0) (0 : Int32).toNatClampNeg 1)))))]) [0, 2, 3, 4, 5, 1] (by decide) rfl
  refine W.widen (k := 0) (n := 0) (Nat.le_of_ble_eq_true rfl) (Nat.le_of_ble_eq_true rfl) ?_
  exact W.vret hx hb hr (fun t ht hW => ⟨⟨(), rfl, trivial, by rw [ht]; exact hP9, va_K.moved hW.alike hK, hD9⟩, hS.F ht⟩) hS.2.2 dX10_hangSolids_41
set_option maxHeartbeats 4000000 in
set_option maxRecDepth 100000 in
theorem c_X10_hangSolids_12 (l : Launch) (dC : Nat → ClassId) (dI : Nat → Nat → Nat) (cB cI cJ : ClassId) (sz : Nat) (x0 xTape xReader xBag xBld xAng xSum xPik xHan xIns xShr xSta xTur sM sP sA hH hR hT hM : Nat) (fh : Nat → Int32) (ft : Nat → Int64) : Met l yX10_hangSolids wsX10_hangSolids ({ frames := 5, cells := 0, slots := 0, locals := 118 }) (va_Pc [.ref x0, .int 12] (fun U => U.heap.size = sz ∧ va_P (dC, dI) vwCl [(x0, .inr (10, [.ref xTape, .ref xReader, .ref xBag, .ref xBld, .ref xAng, .ref xSum, .ref xPik, .int 0, .ref xHan, .ref xIns, .ref xShr, .ref xSta, .ref xTur])), (xSum, .inr (8, [.ref sM, .ref sP, .ref sA, .int 0])), (xHan, .inr (3, [.int 0, .int 0, .int 0, .ref hH, .ref hR, .ref hT, .ref hM])), (hH, .inl (cI, 7, (.inl fh))), (hT, .inl (cJ, 7, (.inr (.inl ft)))), (hM, .inl (cJ, 6, (.inr (.inl (fun _ => 0)))))] U.heap ∧ va_K (dC, dI) vwCl [(cB, .byte), (cI, .int), (cJ, .long)] U ∧ va_D (fun _ => True) [(x0, .inr (10, [.ref xTape, .ref xReader, .ref xBag, .ref xBld, .ref xAng, .ref xSum, .ref xPik, .int 0, .ref xHan, .ref xIns, .ref xShr, .ref xSta, .ref xTur])), (xSum, .inr (8, [.ref sM, .ref sP, .ref sA, .int 0])), (xHan, .inr (3, [.int 0, .int 0, .int 0, .ref hH, .ref hR, .ref hT, .ref hM])), (hH, .inl (cI, 7, (.inl fh))), (hT, .inl (cJ, 7, (.inr (.inl ft)))), (hM, .inl (cJ, 6, (.inr (.inl (fun _ => 0)))))] ∧ va_Nw (.methodLinkNest RX3 62 yX10_gcd "ScissorsTable") U)) (va_Qv (fun _ : Unit => True) (fun _ t => va_P (dC, dI) vwCl [(x0, .inr (10, [.ref xTape, .ref xReader, .ref xBag, .ref xBld, .ref xAng, .ref xSum, .ref xPik, .int 0, .ref xHan, .ref xIns, .ref xShr, .ref xSta, .ref xTur])), (xHan, .inr (3, [.int 0, .int 2, .int 1, .ref hH, .ref hR, .ref hT, .ref hM])), (xSum, .inr (8, [.ref sM, .ref sP, .ref sA, .int 0])), (hH, .inl (cI, 7, (.inl (upd (upd fh (0 : Int32).toNatClampNeg 2) (0 : Int32).toNatClampNeg 3)))), (hT, .inl (cJ, 7, (.inr (.inl (vp_updL (vp_updL ft (0 : Int32).toNatClampNeg 1) (0 : Int32).toNatClampNeg 1))))), (hM, .inl (cJ, 6, (.inr (.inl (vp_updL (fun _ => 0) (0 : Int32).toNatClampNeg 1)))))] t.heap ∧ va_K (dC, dI) vwCl [(cB, .byte), (cI, .int), (cJ, .long)] t ∧ va_D (va_A [(x0, .inr (10, [.ref xTape, .ref xReader, .ref xBag, .ref xBld, .ref xAng, .ref xSum, .ref xPik, .int 0, .ref xHan, .ref xIns, .ref xShr, .ref xSta, .ref xTur])), (xSum, .inr (8, [.ref sM, .ref sP, .ref sA, .int 0])), (xHan, .inr (3, [.int 0, .int 0, .int 0, .ref hH, .ref hR, .ref hT, .ref hM])), (hH, .inl (cI, 7, (.inl fh))), (hT, .inl (cJ, 7, (.inr (.inl ft)))), (hM, .inl (cJ, 6, (.inr (.inl (fun _ => 0)))))] sz) [(x0, .inr (10, [.ref xTape, .ref xReader, .ref xBag, .ref xBld, .ref xAng, .ref xSum, .ref xPik, .int 0, .ref xHan, .ref xIns, .ref xShr, .ref xSta, .ref xTur])), (xHan, .inr (3, [.int 0, .int 2, .int 1, .ref hH, .ref hR, .ref hT, .ref hM])), (xSum, .inr (8, [.ref sM, .ref sP, .ref sA, .int 0])), (hH, .inl (cI, 7, (.inl (upd (upd fh (0 : Int32).toNatClampNeg 2) (0 : Int32).toNatClampNeg 3)))), (hT, .inl (cJ, 7, (.inr (.inl (vp_updL (vp_updL ft (0 : Int32).toNatClampNeg 1) (0 : Int32).toNatClampNeg 1))))), (hM, .inl (cJ, 6, (.inr (.inl (vp_updL (fun _ => 0) (0 : Int32).toNatClampNeg 1)))))]) (va_A [(x0, .inr (10, [.ref xTape, .ref xReader, .ref xBag, .ref xBld, .ref xAng, .ref xSum, .ref xPik, .int 0, .ref xHan, .ref xIns, .ref xShr, .ref xSta, .ref xTur])), (xSum, .inr (8, [.ref sM, .ref sP, .ref sA, .int 0])), (xHan, .inr (3, [.int 0, .int 0, .int 0, .ref hH, .ref hR, .ref hT, .ref hM])), (hH, .inl (cI, 7, (.inl fh))), (hT, .inl (cJ, 7, (.inr (.inl ft)))), (hM, .inl (cJ, 6, (.inr (.inl (fun _ => 0)))))] sz)) 0 0 (va_A [(x0, .inr (10, [.ref xTape, .ref xReader, .ref xBag, .ref xBld, .ref xAng, .ref xSum, .ref xPik, .int 0, .ref xHan, .ref xIns, .ref xShr, .ref xSta, .ref xTur])), (xSum, .inr (8, [.ref sM, .ref sP, .ref sA, .int 0])), (xHan, .inr (3, [.int 0, .int 0, .int 0, .ref hH, .ref hR, .ref hT, .ref hM])), (hH, .inl (cI, 7, (.inl fh))), (hT, .inl (cJ, 7, (.inr (.inl ft)))), (hM, .inl (cJ, 6, (.inr (.inl (fun _ => 0)))))] sz) := by
  refine Met.ofW (cc := cX10_hangSolids) (maxL := 3) (ret := none) (by decide) rfl ?_
  intro p e s m args below meth c s₁ B hml hv
  obtain ⟨rfl, hsz, hP, hK, hD0, hN0⟩ := hv
  have hx := B.exec
  have hb := B.bytes
  have hr := B.returns
  have hts := atoms_spec (ws := wsX10_hangSolids) B.pre
  have hown : s.vm.findClass RX10 = some m.cls := findClass_of_methodNamed B.named
  have hlocks := B.notSynchronized
  have hiX10 : ∀ w ∈ u_ws RX10 TX10 13, w ∈ wsX10_hangSolids := by decide +kernel
  subst hsz
  have hD := hD0.self (sz := s.heap.size)
  generalize hAe : va_A [(x0, .inr (10, [.ref xTape, .ref xReader, .ref xBag, .ref xBld, .ref xAng, .ref xSum, .ref xPik, .int 0, .ref xHan, .ref xIns, .ref xShr, .ref xSta, .ref xTur])), (xSum, .inr (8, [.ref sM, .ref sP, .ref sA, .int 0])), (xHan, .inr (3, [.int 0, .int 0, .int 0, .ref hH, .ref hR, .ref hT, .ref hM])), (hH, .inl (cI, 7, (.inl fh))), (hT, .inl (cJ, 7, (.inr (.inl ft)))), (hM, .inl (cJ, 6, (.inr (.inl (fun _ => 0)))))] s.heap.size = A at hD ⊢
  have hA : ∀ q : Nat, s.heap.size ≤ q → A q := fun q h => by rw [← hAe]; exact Or.inr h
  have hS : va_S A s.heap s.heap [] := va_S.rf
  have hP : va_P (dC, dI) vwCl [(x0, .inr (10, [.ref xTape, .ref xReader, .ref xBag, .ref xBld, .ref xAng, .ref xSum, .ref xPik, .int 0, .ref xHan, .ref xIns, .ref xShr, .ref xSta, .ref xTur])), (xSum, .inr (8, [.ref sM, .ref sP, .ref sA, .int 0])), (xHan, .inr (3, [.int 0, .int 0, .int 0, .ref hH, .ref hR, .ref hT, .ref hM])), (hH, .inl (cI, 7, (.inl fh))), (hT, .inl (cJ, 7, (.inr (.inl ft)))), (hM, .inl (cJ, 6, (.inr (.inl (fun _ => 0)))))] s.heap := hP
  have hl := lv_entry ([.ref x0, .int 12]) (n := 3) (Nat.le_of_ble_eq_true rfl)
  rw [lg_entry_eq]
  generalize (lg_sl ([.ref x0, .int 12]) ++ List.replicate (3 - (lg_sl ([.ref x0, .int 12])).length) Slot.unset).toArray = ls at hl ⊢
  have hl : lv_has ls 3 [(0, .ref x0), (1, .int 12)] := hl
  refine lv_aload_n hx hb dX10_hangSolids_0 rfl (lv_at hl 0 rfl) ?_
  refine va_get (D := (dC, dI)) (ci := 10) (v := .ref xHan) (C := RX10) (T := TX10) (N := 13) hx hb hts hiX10 hown hK hP 0 rfl rfl 8 (by decide) (hts (.fieldLink RX10 61 "ScissorsTable" "hang" "LScissorsTable$Hang;") (by decide +kernel)) (fun _ h9 => h9) rfl dX10_hangSolids_1 ?_
  have hPc := hP.sub (ws' := [(xHan, .inr (3, [.int 0, .int 0, .int 0, .ref hH, .ref hR, .ref hT, .ref hM]))]) [2] rfl
  have hDc := hD.sub (ws' := [(xHan, .inr (3, [.int 0, .int 0, .int 0, .ref hH, .ref hR, .ref hT, .ref hM]))]) [2] (by decide) rfl
  have hFc := va_free (wc := [(xHan, .inr (3, [.int 0, .int 0, .int 0, .ref hH, .ref hR, .ref hT, .ref hM]))]) hD hS hA [2] rfl
  refine va_callv (va_runV (As := []) (rest := []) ⟨hx, hb, hml, hown, hts⟩ (c_X3_begin l dC dI cB cI cJ s.heap.size xHan hH hR hT hM) (cwV 0 hts gX10_hangSolids_X3_begin rfl rfl rfl (by decide +kernel) ⟨Nat.le_of_ble_eq_true rfl, Nat.le_of_ble_eq_true rfl⟩) ⟨fun a U g mk q => by obtain ⟨q0, q1, qP, qK, qD⟩ := q; exact ⟨q0, q1, qP, va_K.moved (u := U) (U := U.calling g mk a) (Vm.Alike.refl U.vm) qK, qD⟩, va_recv hK hP (ci := 3) (q0 := 2) rfl rfl, fun U hU hW => ⟨rfl, by rw [hU], by rw [hU]; exact hPc, va_K.moved hW.alike hK, hDc.weaken (fun _ _ _ _ => trivial)⟩⟩ rfl rfl hl.1 rfl (lv_room (Nat.le_of_ble_eq_true rfl)) dX10_hangSolids_4 ⟨Nat.le_of_ble_eq_true rfl, Nat.le_of_ble_eq_true rfl⟩) hS (fun q _ h => hFc q h) hFc (fun u t H1 locs ht hvm hw hB hz1 hk1 hS => ?_)
  obtain ⟨hP1, hK1, hD1⟩ := hB
  rw [ht] at hP1
  obtain ⟨hP, hD⟩ := va_join (wr := [(x0, .inr (10, [.ref xTape, .ref xReader, .ref xBag, .ref xBld, .ref xAng, .ref xSum, .ref xPik, .int 0, .ref xHan, .ref xIns, .ref xShr, .ref xSta, .ref xTur])), (xSum, .inr (8, [.ref sM, .ref sP, .ref sA, .int 0])), (hH, .inl (cI, 7, (.inl fh))), (hT, .inl (cJ, 7, (.inr (.inl ft)))), (hM, .inl (cJ, 6, (.inr (.inl (fun _ => 0)))))]) (w1 := [(xHan, .inr (3, [.int 0, .int 0, .int 0, .ref hH, .ref hR, .ref hT, .ref hM]))]) hP hD [2] [0, 1, 3, 4, 5] rfl rfl (by decide) (by decide) hk1 hFc hP1 hD1
  generalize H1 = H at hP hS ⊢
  have hP : va_P (dC, dI) vwCl [(x0, .inr (10, [.ref xTape, .ref xReader, .ref xBag, .ref xBld, .ref xAng, .ref xSum, .ref xPik, .int 0, .ref xHan, .ref xIns, .ref xShr, .ref xSta, .ref xTur])), (xSum, .inr (8, [.ref sM, .ref sP, .ref sA, .int 0])), (hH, .inl (cI, 7, (.inl fh))), (hT, .inl (cJ, 7, (.inr (.inl ft)))), (hM, .inl (cJ, 6, (.inr (.inl (fun _ => 0))))), (xHan, .inr (3, [.int 0, .int 0, .int 0, .ref hH, .ref hR, .ref hT, .ref hM]))] H := hP
  have hD : va_D A [(x0, .inr (10, [.ref xTape, .ref xReader, .ref xBag, .ref xBld, .ref xAng, .ref xSum, .ref xPik, .int 0, .ref xHan, .ref xIns, .ref xShr, .ref xSta, .ref xTur])), (xSum, .inr (8, [.ref sM, .ref sP, .ref sA, .int 0])), (hH, .inl (cI, 7, (.inl fh))), (hT, .inl (cJ, 7, (.inr (.inl ft)))), (hM, .inl (cJ, 6, (.inr (.inl (fun _ => 0))))), (xHan, .inr (3, [.int 0, .int 0, .int 0, .ref hH, .ref hR, .ref hT, .ref hM]))] := hD
  refine lv_iconst (v := 0) hx hb dX10_hangSolids_7 (by decide) ?_
  refine lv_istore_n (lv' := [(2, .int 0), (0, .ref x0), (1, .int 12)]) hx hb dX10_hangSolids_8 rfl hl (by decide) rfl (fun ls hl => ?_)
  refine lv_iload_n hx hb dX10_hangSolids_9 rfl (lv_at hl 0 rfl) ?_
  refine lv_iconst (v := 4) hx hb dX10_hangSolids_10 (by decide) ?_
  refine lv_icmp_ge (tgt := 41) hx hb dX10_hangSolids_11 (by decide) (fun c => absurd c (by decide)) (fun _ => ?_)
  refine lv_iload_n hx hb dX10_hangSolids_14 rfl (lv_at hl 2 rfl) ?_
  refine lv_iload_n hx hb dX10_hangSolids_15 rfl (lv_at hl 0 rfl) ?_
  refine lv_ishr hx hb dX10_hangSolids_16 ?_
  refine lv_topi (fun x_1 ex_1 => ?_)
  obtain rfl : x_1 = 12 := ex_1.trans (by first | rfl | decide)
  refine lv_iconst (v := 1) hx hb dX10_hangSolids_17 (by decide) ?_
  refine lv_iand hx hb dX10_hangSolids_18 ?_
  refine lv_topi (fun x_2 ex_2 => ?_)
  obtain rfl : x_2 = 0 := ex_2.trans (by first | rfl | decide)
  refine lv_iconst (v := 1) hx hb dX10_hangSolids_19 (by decide) ?_
  refine lv_icmp_ne (tgt := 35) hx hb dX10_hangSolids_20 (by decide) (fun _ => ?_) (fun c => absurd c (by decide))
  refine lv_iinc (v := 1) (lv' := [(2, .int 1), (0, .ref x0), (1, .int 12)]) hx hb dX10_hangSolids_35 hl (k := 0) rfl (by decide) (by decide) rfl (fun ls hl => ?_)
  refine lv_goto (tgt := 9) hx hb dX10_hangSolids_38 (by decide) ?_
  refine lv_iload_n hx hb dX10_hangSolids_9 rfl (lv_at hl 0 rfl) ?_
  refine lv_iconst (v := 4) hx hb dX10_hangSolids_10 (by decide) ?_
  refine lv_icmp_ge (tgt := 41) hx hb dX10_hangSolids_11 (by decide) (fun c => absurd c (by decide)) (fun _ => ?_)
  refine lv_iload_n hx hb dX10_hangSolids_14 rfl (lv_at hl 2 rfl) ?_
  refine lv_iload_n hx hb dX10_hangSolids_15 rfl (lv_at hl 0 rfl) ?_
  refine lv_ishr hx hb dX10_hangSolids_16 ?_
  refine lv_topi (fun x_3 ex_3 => ?_)
  obtain rfl : x_3 = 6 := ex_3.trans (by first | rfl | decide)
  refine lv_iconst (v := 1) hx hb dX10_hangSolids_17 (by decide) ?_
  refine lv_iand hx hb dX10_hangSolids_18 ?_
  refine lv_topi (fun x_4 ex_4 => ?_)
  obtain rfl : x_4 = 0 := ex_4.trans (by first | rfl | decide)
  refine lv_iconst (v := 1) hx hb dX10_hangSolids_19 (by decide) ?_
  refine lv_icmp_ne (tgt := 35) hx hb dX10_hangSolids_20 (by decide) (fun _ => ?_) (fun c => absurd c (by decide))
  refine lv_iinc (v := 2) (lv' := [(2, .int 2), (0, .ref x0), (1, .int 12)]) hx hb dX10_hangSolids_35 hl (k := 0) rfl (by decide) (by decide) rfl (fun ls hl => ?_)
  refine lv_goto (tgt := 9) hx hb dX10_hangSolids_38 (by decide) ?_
  refine lv_iload_n hx hb dX10_hangSolids_9 rfl (lv_at hl 0 rfl) ?_
  refine lv_iconst (v := 4) hx hb dX10_hangSolids_10 (by decide) ?_
  refine lv_icmp_ge (tgt := 41) hx hb dX10_hangSolids_11 (by decide) (fun c => absurd c (by decide)) (fun _ => ?_)
  refine lv_iload_n hx hb dX10_hangSolids_14 rfl (lv_at hl 2 rfl) ?_
  refine lv_iload_n hx hb dX10_hangSolids_15 rfl (lv_at hl 0 rfl) ?_
  refine lv_ishr hx hb dX10_hangSolids_16 ?_
  refine lv_topi (fun x_5 ex_5 => ?_)
  obtain rfl : x_5 = 3 := ex_5.trans (by first | rfl | decide)
  refine lv_iconst (v := 1) hx hb dX10_hangSolids_17 (by decide) ?_
  refine lv_iand hx hb dX10_hangSolids_18 ?_
  refine lv_topi (fun x_6 ex_6 => ?_)
  obtain rfl : x_6 = 1 := ex_6.trans (by first | rfl | decide)
  refine lv_iconst (v := 1) hx hb dX10_hangSolids_19 (by decide) ?_
  refine lv_icmp_ne (tgt := 35) hx hb dX10_hangSolids_20 (by decide) (fun c => absurd (by decide) c) (fun _ => ?_)
  refine lv_aload_n hx hb dX10_hangSolids_23 rfl (lv_at hl 1 rfl) ?_
  refine va_get (D := (dC, dI)) (ci := 10) (v := .ref xHan) (C := RX10) (T := TX10) (N := 13) hx hb hts hiX10 hown hK hP 0 rfl rfl 8 (by decide) (hts (.fieldLink RX10 61 "ScissorsTable" "hang" "LScissorsTable$Hang;") (by decide +kernel)) (fun _ h9 => h9) rfl dX10_hangSolids_24 ?_
  refine lv_aload_n hx hb dX10_hangSolids_27 rfl (lv_at hl 1 rfl) ?_
  refine va_get (D := (dC, dI)) (ci := 10) (v := .ref xSum) (C := RX10) (T := TX10) (N := 13) hx hb hts hiX10 hown hK hP 0 rfl rfl 5 (by decide) (hts (.fieldLink RX10 51 "ScissorsTable" "sums" "LScissorsTable$Sums;") (by decide +kernel)) (fun _ h9 => h9) rfl dX10_hangSolids_28 ?_
  refine lv_iload_n hx hb dX10_hangSolids_31 rfl (lv_at hl 0 rfl) ?_
  have hPc := hP.sub (ws' := [(xSum, .inr (8, [.ref sM, .ref sP, .ref sA, .int 0])), (xHan, .inr (3, [.int 0, .int 0, .int 0, .ref hH, .ref hR, .ref hT, .ref hM])), (hH, .inl (cI, 7, (.inl fh))), (hT, .inl (cJ, 7, (.inr (.inl ft)))), (hM, .inl (cJ, 6, (.inr (.inl (fun _ => 0)))))]) [1, 5, 2, 3, 4] rfl
  have hDc := hD.sub (ws' := [(xSum, .inr (8, [.ref sM, .ref sP, .ref sA, .int 0])), (xHan, .inr (3, [.int 0, .int 0, .int 0, .ref hH, .ref hR, .ref hT, .ref hM])), (hH, .inl (cI, 7, (.inl fh))), (hT, .inl (cJ, 7, (.inr (.inl ft)))), (hM, .inl (cJ, 6, (.inr (.inl (fun _ => 0)))))]) [1, 5, 2, 3, 4] (by decide) rfl
  have hFc := va_free (wc := [(xSum, .inr (8, [.ref sM, .ref sP, .ref sA, .int 0])), (xHan, .inr (3, [.int 0, .int 0, .int 0, .ref hH, .ref hR, .ref hT, .ref hM])), (hH, .inl (cI, 7, (.inl fh))), (hT, .inl (cJ, 7, (.inr (.inl ft)))), (hM, .inl (cJ, 6, (.inr (.inl (fun _ => 0)))))]) hD hS hA [1, 5, 2, 3, 4] rfl
  refine va_callv (va_runV (As := [.ref xSum, .int 2]) (rest := []) ⟨hx, hb, hml, hown, hts⟩ (c_X3_next_t0 l dC dI cB cI cJ H.size xSum sM sP sA xHan hH hR hT hM 2 fh ft) (cwV 2 hts gX10_hangSolids_X3_next rfl rfl rfl (by decide +kernel) ⟨Nat.le_of_ble_eq_true rfl, Nat.le_of_ble_eq_true rfl⟩) ⟨fun a U g mk q => by obtain ⟨q0, q1, qP, qK, qD, qN0⟩ := q; exact ⟨q0, q1, qP, va_K.moved (u := U) (U := U.calling g mk a) (Vm.Alike.refl U.vm) qK, qD, va_Nw.same rfl rfl qN0⟩, va_recv hK hP (ci := 3) (q0 := 5) rfl rfl, fun U hU hW => ⟨rfl, by rw [hU], by rw [hU]; exact hPc, va_K.moved hW.alike hK, hDc.weaken (fun _ _ _ _ => trivial), va_Nw.warmM hW hN0⟩⟩ rfl rfl hl.1 rfl (lv_room (Nat.le_of_ble_eq_true rfl)) dX10_hangSolids_32 ⟨Nat.le_of_ble_eq_true rfl, Nat.le_of_ble_eq_true rfl⟩) hS (fun q _ h => hFc q h) hFc (fun u t H1 locs ht hvm hw hB hz1 hk1 hS => ?_)
  obtain ⟨hP1, hK1, hD1⟩ := hB
  rw [ht] at hP1
  obtain ⟨hP, hD⟩ := va_join (wr := [(x0, .inr (10, [.ref xTape, .ref xReader, .ref xBag, .ref xBld, .ref xAng, .ref xSum, .ref xPik, .int 0, .ref xHan, .ref xIns, .ref xShr, .ref xSta, .ref xTur]))]) (w1 := [(xHan, .inr (3, [.int 0, .int 1, .int 1, .ref hH, .ref hR, .ref hT, .ref hM])), (xSum, .inr (8, [.ref sM, .ref sP, .ref sA, .int 0])), (hH, .inl (cI, 7, (.inl (upd fh (0 : Int32).toNatClampNeg 2)))), (hT, .inl (cJ, 7, (.inr (.inl (vp_updL ft (0 : Int32).toNatClampNeg 1))))), (hM, .inl (cJ, 6, (.inr (.inl (vp_updL (fun _ => 0) (0 : Int32).toNatClampNeg 1)))))]) hP hD [1, 5, 2, 3, 4] [0] rfl rfl (by decide) (by decide) hk1 hFc hP1 hD1
  generalize H1 = H at hP hS ⊢
  have hP : va_P (dC, dI) vwCl [(x0, .inr (10, [.ref xTape, .ref xReader, .ref xBag, .ref xBld, .ref xAng, .ref xSum, .ref xPik, .int 0, .ref xHan, .ref xIns, .ref xShr, .ref xSta, .ref xTur])), (xHan, .inr (3, [.int 0, .int 1, .int 1, .ref hH, .ref hR, .ref hT, .ref hM])), (xSum, .inr (8, [.ref sM, .ref sP, .ref sA, .int 0])), (hH, .inl (cI, 7, (.inl (upd fh (0 : Int32).toNatClampNeg 2)))), (hT, .inl (cJ, 7, (.inr (.inl (vp_updL ft (0 : Int32).toNatClampNeg 1))))), (hM, .inl (cJ, 6, (.inr (.inl (vp_updL (fun _ => 0) (0 : Int32).toNatClampNeg 1)))))] H := hP
  have hD : va_D A [(x0, .inr (10, [.ref xTape, .ref xReader, .ref xBag, .ref xBld, .ref xAng, .ref xSum, .ref xPik, .int 0, .ref xHan, .ref xIns, .ref xShr, .ref xSta, .ref xTur])), (xHan, .inr (3, [.int 0, .int 1, .int 1, .ref hH, .ref hR, .ref hT, .ref hM])), (xSum, .inr (8, [.ref sM, .ref sP, .ref sA, .int 0])), (hH, .inl (cI, 7, (.inl (upd fh (0 : Int32).toNatClampNeg 2)))), (hT, .inl (cJ, 7, (.inr (.inl (vp_updL ft (0 : Int32).toNatClampNeg 1))))), (hM, .inl (cJ, 6, (.inr (.inl (vp_updL (fun _ => 0) (0 : Int32).toNatClampNeg 1)))))] := hD
  refine lv_iinc (v := 3) (lv' := [(2, .int 3), (0, .ref x0), (1, .int 12)]) hx hb dX10_hangSolids_35 hl (k := 0) rfl (by decide) (by decide) rfl (fun ls hl => ?_)
  refine lv_goto (tgt := 9) hx hb dX10_hangSolids_38 (by decide) ?_
  refine lv_iload_n hx hb dX10_hangSolids_9 rfl (lv_at hl 0 rfl) ?_
  refine lv_iconst (v := 4) hx hb dX10_hangSolids_10 (by decide) ?_
  refine lv_icmp_ge (tgt := 41) hx hb dX10_hangSolids_11 (by decide) (fun c => absurd c (by decide)) (fun _ => ?_)
  refine lv_iload_n hx hb dX10_hangSolids_14 rfl (lv_at hl 2 rfl) ?_
  refine lv_iload_n hx hb dX10_hangSolids_15 rfl (lv_at hl 0 rfl) ?_
  refine lv_ishr hx hb dX10_hangSolids_16 ?_
  refine lv_topi (fun x_7 ex_7 => ?_)
  obtain rfl : x_7 = 1 := ex_7.trans (by first | rfl | decide)
  refine lv_iconst (v := 1) hx hb dX10_hangSolids_17 (by decide) ?_
  refine lv_iand hx hb dX10_hangSolids_18 ?_
  refine lv_topi (fun x_8 ex_8 => ?_)
  obtain rfl : x_8 = 1 := ex_8.trans (by first | rfl | decide)
  refine lv_iconst (v := 1) hx hb dX10_hangSolids_19 (by decide) ?_
  refine lv_icmp_ne (tgt := 35) hx hb dX10_hangSolids_20 (by decide) (fun c => absurd (by decide) c) (fun _ => ?_)
  refine lv_aload_n hx hb dX10_hangSolids_23 rfl (lv_at hl 1 rfl) ?_
  refine va_get (D := (dC, dI)) (ci := 10) (v := .ref xHan) (C := RX10) (T := TX10) (N := 13) hx hb hts hiX10 hown hK hP 0 rfl rfl 8 (by decide) (hts (.fieldLink RX10 61 "ScissorsTable" "hang" "LScissorsTable$Hang;") (by decide +kernel)) (fun _ h9 => h9) rfl dX10_hangSolids_24 ?_
  refine lv_aload_n hx hb dX10_hangSolids_27 rfl (lv_at hl 1 rfl) ?_
  refine va_get (D := (dC, dI)) (ci := 10) (v := .ref xSum) (C := RX10) (T := TX10) (N := 13) hx hb hts hiX10 hown hK hP 0 rfl rfl 5 (by decide) (hts (.fieldLink RX10 51 "ScissorsTable" "sums" "LScissorsTable$Sums;") (by decide +kernel)) (fun _ h9 => h9) rfl dX10_hangSolids_28 ?_
  refine lv_iload_n hx hb dX10_hangSolids_31 rfl (lv_at hl 0 rfl) ?_
  have hPc := hP.sub (ws' := [(xSum, .inr (8, [.ref sM, .ref sP, .ref sA, .int 0])), (xHan, .inr (3, [.int 0, .int 1, .int 1, .ref hH, .ref hR, .ref hT, .ref hM])), (hH, .inl (cI, 7, (.inl (upd fh (0 : Int32).toNatClampNeg 2)))), (hT, .inl (cJ, 7, (.inr (.inl (vp_updL ft (0 : Int32).toNatClampNeg 1)))))]) [2, 1, 3, 4] rfl
  have hDc := hD.sub (ws' := [(xSum, .inr (8, [.ref sM, .ref sP, .ref sA, .int 0])), (xHan, .inr (3, [.int 0, .int 1, .int 1, .ref hH, .ref hR, .ref hT, .ref hM])), (hH, .inl (cI, 7, (.inl (upd fh (0 : Int32).toNatClampNeg 2)))), (hT, .inl (cJ, 7, (.inr (.inl (vp_updL ft (0 : Int32).toNatClampNeg 1)))))]) [2, 1, 3, 4] (by decide) rfl
  have hFc := va_free (wc := [(xSum, .inr (8, [.ref sM, .ref sP, .ref sA, .int 0])), (xHan, .inr (3, [.int 0, .int 1, .int 1, .ref hH, .ref hR, .ref hT, .ref hM])), (hH, .inl (cI, 7, (.inl (upd fh (0 : Int32).toNatClampNeg 2)))), (hT, .inl (cJ, 7, (.inr (.inl (vp_updL ft (0 : Int32).toNatClampNeg 1)))))]) hD hS hA [2, 1, 3, 4] rfl
  refine va_callv (va_runV (As := [.ref xSum, .int 3]) (rest := []) ⟨hx, hb, hml, hown, hts⟩ (c_X3_next_t1 l dC dI cB cI cJ H.size xSum sM sP sA xHan hH hR hT hM 3 (upd fh (0 : Int32).toNatClampNeg 2) (vp_updL ft (0 : Int32).toNatClampNeg 1)) (cwV 2 hts gX10_hangSolids_X3_next rfl rfl rfl (by decide +kernel) ⟨Nat.le_of_ble_eq_true rfl, Nat.le_of_ble_eq_true rfl⟩) ⟨fun a U g mk q => by obtain ⟨q0, q1, qP, qK, qD⟩ := q; exact ⟨q0, q1, qP, va_K.moved (u := U) (U := U.calling g mk a) (Vm.Alike.refl U.vm) qK, qD⟩, va_recv hK hP (ci := 3) (q0 := 1) rfl rfl, fun U hU hW => ⟨rfl, by rw [hU], by rw [hU]; exact hPc, va_K.moved hW.alike hK, hDc.weaken (fun _ _ _ _ => trivial)⟩⟩ rfl rfl hl.1 rfl (lv_room (Nat.le_of_ble_eq_true rfl)) dX10_hangSolids_32 ⟨Nat.le_of_ble_eq_true rfl, Nat.le_of_ble_eq_true rfl⟩) hS (fun q _ h => hFc q h) hFc (fun u t H1 locs ht hvm hw hB hz1 hk1 hS => ?_)
  obtain ⟨hP1, hK1, hD1⟩ := hB
  rw [ht] at hP1
  obtain ⟨hP, hD⟩ := va_join (wr := [(x0, .inr (10, [.ref xTape, .ref xReader, .ref xBag, .ref xBld, .ref xAng, .ref xSum, .ref xPik, .int 0, .ref xHan, .ref xIns, .ref xShr, .ref xSta, .ref xTur])), (hM, .inl (cJ, 6, (.inr (.inl (vp_updL (fun _ => 0) (0 : Int32).toNatClampNeg 1)))))]) (w1 := [(xHan, .inr (3, [.int 0, .int 2, .int 1, .ref hH, .ref hR, .ref hT, .ref hM])), (xSum, .inr (8, [.ref sM, .ref sP, .ref sA, .int 0])), (hH, .inl (cI, 7, (.inl (upd (upd fh (0 : Int32).toNatClampNeg 2) (0 : Int32).toNatClampNeg 3)))), (hT, .inl (cJ, 7, (.inr (.inl (vp_updL (vp_updL ft (0 : Int32).toNatClampNeg 1) (0 : Int32).toNatClampNeg 1)))))]) hP hD [2, 1, 3, 4] [0, 5] rfl rfl (by decide) (by decide) hk1 hFc hP1 hD1
  generalize H1 = H at hP hS ⊢
  have hP : va_P (dC, dI) vwCl [(x0, .inr (10, [.ref xTape, .ref xReader, .ref xBag, .ref xBld, .ref xAng, .ref xSum, .ref xPik, .int 0, .ref xHan, .ref xIns, .ref xShr, .ref xSta, .ref xTur])), (hM, .inl (cJ, 6, (.inr (.inl (vp_updL (fun _ => 0) (0 : Int32).toNatClampNeg 1))))), (xHan, .inr (3, [.int 0, .int 2, .int 1, .ref hH, .ref hR, .ref hT, .ref hM])), (xSum, .inr (8, [.ref sM, .ref sP, .ref sA, .int 0])), (hH, .inl (cI, 7, (.inl (upd (upd fh (0 : Int32).toNatClampNeg 2) (0 : Int32).toNatClampNeg 3)))), (hT, .inl (cJ, 7, (.inr (.inl (vp_updL (vp_updL ft (0 : Int32).toNatClampNeg 1) (0 : Int32).toNatClampNeg 1)))))] H := hP
  have hD : va_D A [(x0, .inr (10, [.ref xTape, .ref xReader, .ref xBag, .ref xBld, .ref xAng, .ref xSum, .ref xPik, .int 0, .ref xHan, .ref xIns, .ref xShr, .ref xSta, .ref xTur])), (hM, .inl (cJ, 6, (.inr (.inl (vp_updL (fun _ => 0) (0 : Int32).toNatClampNeg 1))))), (xHan, .inr (3, [.int 0, .int 2, .int 1, .ref hH, .ref hR, .ref hT, .ref hM])), (xSum, .inr (8, [.ref sM, .ref sP, .ref sA, .int 0])), (hH, .inl (cI, 7, (.inl (upd (upd fh (0 : Int32).toNatClampNeg 2) (0 : Int32).toNatClampNeg 3)))), (hT, .inl (cJ, 7, (.inr (.inl (vp_updL (vp_updL ft (0 : Int32).toNatClampNeg 1) (0 : Int32).toNatClampNeg 1)))))] := hD
  refine lv_iinc (v := 4) (lv' := [(2, .int 4), (0, .ref x0), (1, .int 12)]) hx hb dX10_hangSolids_35 hl (k := 0) rfl (by decide) (by decide) rfl (fun ls hl => ?_)
  refine lv_goto (tgt := 9) hx hb dX10_hangSolids_38 (by decide) ?_
  refine lv_iload_n hx hb dX10_hangSolids_9 rfl (lv_at hl 0 rfl) ?_
  refine lv_iconst (v := 4) hx hb dX10_hangSolids_10 (by decide) ?_
  refine lv_icmp_ge (tgt := 41) hx hb dX10_hangSolids_11 (by decide) (fun _ => ?_) (fun c => absurd (by decide) c)
  have hP9 := hP.sub (ws' := [(x0, .inr (10, [.ref xTape, .ref xReader, .ref xBag, .ref xBld, .ref xAng, .ref xSum, .ref xPik, .int 0, .ref xHan, .ref xIns, .ref xShr, .ref xSta, .ref xTur])), (xHan, .inr (3, [.int 0, .int 2, .int 1, .ref hH, .ref hR, .ref hT, .ref hM])), (xSum, .inr (8, [.ref sM, .ref sP, .ref sA, .int 0])), (hH, .inl (cI, 7, (.inl (upd (upd fh (0 : Int32).toNatClampNeg 2) (0 : Int32).toNatClampNeg 3)))), (hT, .inl (cJ, 7, (.inr (.inl (vp_updL (vp_updL ft (0 : Int32).toNatClampNeg 1) (0 : Int32).toNatClampNeg 1))))), (hM, .inl (cJ, 6, (.inr (.inl (vp_updL (fun _ => 0) (0 : Int32).toNatClampNeg 1)))))]) [0, 2, 3, 4, 5, 1] rfl
  have hD9 := hD.sub (ws' := [(x0, .inr (10, [.ref xTape, .ref xReader, .ref xBag, .ref xBld, .ref xAng, .ref xSum, .ref xPik, .int 0, .ref xHan, .ref xIns, .ref xShr, .ref xSta, .ref xTur])), (xHan, .inr (3, [.int 0, .int 2, .int 1, .ref hH, .ref hR, .ref hT, .ref hM])), (xSum, .inr (8, [.ref sM, .ref sP, .ref sA, .int 0])), (hH, .inl (cI, 7, (.inl (upd (upd fh (0 : Int32).toNatClampNeg 2) (0 : Int32).toNatClampNeg 3)))), (hT, .inl (cJ, 7, (.inr (.inl (vp_updL (vp_updL ft (0 : Int32).toNatClampNeg 1) (0 : Int32).toNatClampNeg 1))))), (hM, .inl (cJ, 6, (.inr (.inl (vp_updL (fun _ => 0) (0 : Int32).toNatClampNeg 1)))))]) [0, 2, 3, 4, 5, 1] (by decide) rfl
  refine W.widen (k := 0) (n := 0) (Nat.le_of_ble_eq_true rfl) (Nat.le_of_ble_eq_true rfl) ?_
  exact W.vret hx hb hr (fun t ht hW => ⟨⟨(), rfl, trivial, by rw [ht]; exact hP9, va_K.moved hW.alike hK, hD9⟩, hS.F ht⟩) hS.2.2 dX10_hangSolids_41
set_option maxHeartbeats 4000000 in
set_option maxRecDepth 100000 in
theorem c_X10_hangSolids_13 (l : Launch) (dC : Nat → ClassId) (dI : Nat → Nat → Nat) (cB cI cJ : ClassId) (sz : Nat) (x0 xTape xReader xBag xBld xAng xSum xPik xHan xIns xShr xSta xTur sM sP sA hH hR hT hM : Nat) (fh : Nat → Int32) (ft : Nat → Int64) : Met l yX10_hangSolids wsX10_hangSolids ({ frames := 5, cells := 0, slots := 0, locals := 118 }) (va_Pc [.ref x0, .int 13] (fun U => U.heap.size = sz ∧ va_P (dC, dI) vwCl [(x0, .inr (10, [.ref xTape, .ref xReader, .ref xBag, .ref xBld, .ref xAng, .ref xSum, .ref xPik, .int 0, .ref xHan, .ref xIns, .ref xShr, .ref xSta, .ref xTur])), (xSum, .inr (8, [.ref sM, .ref sP, .ref sA, .int 0])), (xHan, .inr (3, [.int 0, .int 0, .int 0, .ref hH, .ref hR, .ref hT, .ref hM])), (hH, .inl (cI, 7, (.inl fh))), (hT, .inl (cJ, 7, (.inr (.inl ft)))), (hM, .inl (cJ, 6, (.inr (.inl (fun _ => 0)))))] U.heap ∧ va_K (dC, dI) vwCl [(cB, .byte), (cI, .int), (cJ, .long)] U ∧ va_D (fun _ => True) [(x0, .inr (10, [.ref xTape, .ref xReader, .ref xBag, .ref xBld, .ref xAng, .ref xSum, .ref xPik, .int 0, .ref xHan, .ref xIns, .ref xShr, .ref xSta, .ref xTur])), (xSum, .inr (8, [.ref sM, .ref sP, .ref sA, .int 0])), (xHan, .inr (3, [.int 0, .int 0, .int 0, .ref hH, .ref hR, .ref hT, .ref hM])), (hH, .inl (cI, 7, (.inl fh))), (hT, .inl (cJ, 7, (.inr (.inl ft)))), (hM, .inl (cJ, 6, (.inr (.inl (fun _ => 0)))))] ∧ va_Nw (.methodLinkNest RX3 62 yX10_gcd "ScissorsTable") U)) (va_Qv (fun _ : Unit => True) (fun _ t => va_P (dC, dI) vwCl [(x0, .inr (10, [.ref xTape, .ref xReader, .ref xBag, .ref xBld, .ref xAng, .ref xSum, .ref xPik, .int 0, .ref xHan, .ref xIns, .ref xShr, .ref xSta, .ref xTur])), (xHan, .inr (3, [.int 0, .int 3, .int 1, .ref hH, .ref hR, .ref hT, .ref hM])), (xSum, .inr (8, [.ref sM, .ref sP, .ref sA, .int 0])), (hH, .inl (cI, 7, (.inl (upd (upd (upd fh (0 : Int32).toNatClampNeg 0) (0 : Int32).toNatClampNeg 2) (0 : Int32).toNatClampNeg 3)))), (hT, .inl (cJ, 7, (.inr (.inl (vp_updL (vp_updL (vp_updL ft (0 : Int32).toNatClampNeg 1) (0 : Int32).toNatClampNeg 1) (0 : Int32).toNatClampNeg 1))))), (hM, .inl (cJ, 6, (.inr (.inl (vp_updL (fun _ => 0) (0 : Int32).toNatClampNeg 1)))))] t.heap ∧ va_K (dC, dI) vwCl [(cB, .byte), (cI, .int), (cJ, .long)] t ∧ va_D (va_A [(x0, .inr (10, [.ref xTape, .ref xReader, .ref xBag, .ref xBld, .ref xAng, .ref xSum, .ref xPik, .int 0, .ref xHan, .ref xIns, .ref xShr, .ref xSta, .ref xTur])), (xSum, .inr (8, [.ref sM, .ref sP, .ref sA, .int 0])), (xHan, .inr (3, [.int 0, .int 0, .int 0, .ref hH, .ref hR, .ref hT, .ref hM])), (hH, .inl (cI, 7, (.inl fh))), (hT, .inl (cJ, 7, (.inr (.inl ft)))), (hM, .inl (cJ, 6, (.inr (.inl (fun _ => 0)))))] sz) [(x0, .inr (10, [.ref xTape, .ref xReader, .ref xBag, .ref xBld, .ref xAng, .ref xSum, .ref xPik, .int 0, .ref xHan, .ref xIns, .ref xShr, .ref xSta, .ref xTur])), (xHan, .inr (3, [.int 0, .int 3, .int 1, .ref hH, .ref hR, .ref hT, .ref hM])), (xSum, .inr (8, [.ref sM, .ref sP, .ref sA, .int 0])), (hH, .inl (cI, 7, (.inl (upd (upd (upd fh (0 : Int32).toNatClampNeg 0) (0 : Int32).toNatClampNeg 2) (0 : Int32).toNatClampNeg 3)))), (hT, .inl (cJ, 7, (.inr (.inl (vp_updL (vp_updL (vp_updL ft (0 : Int32).toNatClampNeg 1) (0 : Int32).toNatClampNeg 1) (0 : Int32).toNatClampNeg 1))))), (hM, .inl (cJ, 6, (.inr (.inl (vp_updL (fun _ => 0) (0 : Int32).toNatClampNeg 1)))))]) (va_A [(x0, .inr (10, [.ref xTape, .ref xReader, .ref xBag, .ref xBld, .ref xAng, .ref xSum, .ref xPik, .int 0, .ref xHan, .ref xIns, .ref xShr, .ref xSta, .ref xTur])), (xSum, .inr (8, [.ref sM, .ref sP, .ref sA, .int 0])), (xHan, .inr (3, [.int 0, .int 0, .int 0, .ref hH, .ref hR, .ref hT, .ref hM])), (hH, .inl (cI, 7, (.inl fh))), (hT, .inl (cJ, 7, (.inr (.inl ft)))), (hM, .inl (cJ, 6, (.inr (.inl (fun _ => 0)))))] sz)) 0 0 (va_A [(x0, .inr (10, [.ref xTape, .ref xReader, .ref xBag, .ref xBld, .ref xAng, .ref xSum, .ref xPik, .int 0, .ref xHan, .ref xIns, .ref xShr, .ref xSta, .ref xTur])), (xSum, .inr (8, [.ref sM, .ref sP, .ref sA, .int 0])), (xHan, .inr (3, [.int 0, .int 0, .int 0, .ref hH, .ref hR, .ref hT, .ref hM])), (hH, .inl (cI, 7, (.inl fh))), (hT, .inl (cJ, 7, (.inr (.inl ft)))), (hM, .inl (cJ, 6, (.inr (.inl (fun _ => 0)))))] sz) := by
  refine Met.ofW (cc := cX10_hangSolids) (maxL := 3) (ret := none) (by decide) rfl ?_
  intro p e s m args below meth c s₁ B hml hv
  obtain ⟨rfl, hsz, hP, hK, hD0, hN0⟩ := hv
  have hx := B.exec
  have hb := B.bytes
  have hr := B.returns
  have hts := atoms_spec (ws := wsX10_hangSolids) B.pre
  have hown : s.vm.findClass RX10 = some m.cls := findClass_of_methodNamed B.named
  have hlocks := B.notSynchronized
  have hiX10 : ∀ w ∈ u_ws RX10 TX10 13, w ∈ wsX10_hangSolids := by decide +kernel
  subst hsz
  have hD := hD0.self (sz := s.heap.size)
  generalize hAe : va_A [(x0, .inr (10, [.ref xTape, .ref xReader, .ref xBag, .ref xBld, .ref xAng, .ref xSum, .ref xPik, .int 0, .ref xHan, .ref xIns, .ref xShr, .ref xSta, .ref xTur])), (xSum, .inr (8, [.ref sM, .ref sP, .ref sA, .int 0])), (xHan, .inr (3, [.int 0, .int 0, .int 0, .ref hH, .ref hR, .ref hT, .ref hM])), (hH, .inl (cI, 7, (.inl fh))), (hT, .inl (cJ, 7, (.inr (.inl ft)))), (hM, .inl (cJ, 6, (.inr (.inl (fun _ => 0)))))] s.heap.size = A at hD ⊢
  have hA : ∀ q : Nat, s.heap.size ≤ q → A q := fun q h => by rw [← hAe]; exact Or.inr h
  have hS : va_S A s.heap s.heap [] := va_S.rf
  have hP : va_P (dC, dI) vwCl [(x0, .inr (10, [.ref xTape, .ref xReader, .ref xBag, .ref xBld, .ref xAng, .ref xSum, .ref xPik, .int 0, .ref xHan, .ref xIns, .ref xShr, .ref xSta, .ref xTur])), (xSum, .inr (8, [.ref sM, .ref sP, .ref sA, .int 0])), (xHan, .inr (3, [.int 0, .int 0, .int 0, .ref hH, .ref hR, .ref hT, .ref hM])), (hH, .inl (cI, 7, (.inl fh))), (hT, .inl (cJ, 7, (.inr (.inl ft)))), (hM, .inl (cJ, 6, (.inr (.inl (fun _ => 0)))))] s.heap := hP
  have hl := lv_entry ([.ref x0, .int 13]) (n := 3) (Nat.le_of_ble_eq_true rfl)
  rw [lg_entry_eq]
  generalize (lg_sl ([.ref x0, .int 13]) ++ List.replicate (3 - (lg_sl ([.ref x0, .int 13])).length) Slot.unset).toArray = ls at hl ⊢
  have hl : lv_has ls 3 [(0, .ref x0), (1, .int 13)] := hl
  refine lv_aload_n hx hb dX10_hangSolids_0 rfl (lv_at hl 0 rfl) ?_
  refine va_get (D := (dC, dI)) (ci := 10) (v := .ref xHan) (C := RX10) (T := TX10) (N := 13) hx hb hts hiX10 hown hK hP 0 rfl rfl 8 (by decide) (hts (.fieldLink RX10 61 "ScissorsTable" "hang" "LScissorsTable$Hang;") (by decide +kernel)) (fun _ h9 => h9) rfl dX10_hangSolids_1 ?_
  have hPc := hP.sub (ws' := [(xHan, .inr (3, [.int 0, .int 0, .int 0, .ref hH, .ref hR, .ref hT, .ref hM]))]) [2] rfl
  have hDc := hD.sub (ws' := [(xHan, .inr (3, [.int 0, .int 0, .int 0, .ref hH, .ref hR, .ref hT, .ref hM]))]) [2] (by decide) rfl
  have hFc := va_free (wc := [(xHan, .inr (3, [.int 0, .int 0, .int 0, .ref hH, .ref hR, .ref hT, .ref hM]))]) hD hS hA [2] rfl
  refine va_callv (va_runV (As := []) (rest := []) ⟨hx, hb, hml, hown, hts⟩ (c_X3_begin l dC dI cB cI cJ s.heap.size xHan hH hR hT hM) (cwV 0 hts gX10_hangSolids_X3_begin rfl rfl rfl (by decide +kernel) ⟨Nat.le_of_ble_eq_true rfl, Nat.le_of_ble_eq_true rfl⟩) ⟨fun a U g mk q => by obtain ⟨q0, q1, qP, qK, qD⟩ := q; exact ⟨q0, q1, qP, va_K.moved (u := U) (U := U.calling g mk a) (Vm.Alike.refl U.vm) qK, qD⟩, va_recv hK hP (ci := 3) (q0 := 2) rfl rfl, fun U hU hW => ⟨rfl, by rw [hU], by rw [hU]; exact hPc, va_K.moved hW.alike hK, hDc.weaken (fun _ _ _ _ => trivial)⟩⟩ rfl rfl hl.1 rfl (lv_room (Nat.le_of_ble_eq_true rfl)) dX10_hangSolids_4 ⟨Nat.le_of_ble_eq_true rfl, Nat.le_of_ble_eq_true rfl⟩) hS (fun q _ h => hFc q h) hFc (fun u t H1 locs ht hvm hw hB hz1 hk1 hS => ?_)
  obtain ⟨hP1, hK1, hD1⟩ := hB
  rw [ht] at hP1
  obtain ⟨hP, hD⟩ := va_join (wr := [(x0, .inr (10, [.ref xTape, .ref xReader, .ref xBag, .ref xBld, .ref xAng, .ref xSum, .ref xPik, .int 0, .ref xHan, .ref xIns, .ref xShr, .ref xSta, .ref xTur])), (xSum, .inr (8, [.ref sM, .ref sP, .ref sA, .int 0])), (hH, .inl (cI, 7, (.inl fh))), (hT, .inl (cJ, 7, (.inr (.inl ft)))), (hM, .inl (cJ, 6, (.inr (.inl (fun _ => 0)))))]) (w1 := [(xHan, .inr (3, [.int 0, .int 0, .int 0, .ref hH, .ref hR, .ref hT, .ref hM]))]) hP hD [2] [0, 1, 3, 4, 5] rfl rfl (by decide) (by decide) hk1 hFc hP1 hD1
  generalize H1 = H at hP hS ⊢
  have hP : va_P (dC, dI) vwCl [(x0, .inr (10, [.ref xTape, .ref xReader, .ref xBag, .ref xBld, .ref xAng, .ref xSum, .ref xPik, .int 0, .ref xHan, .ref xIns, .ref xShr, .ref xSta, .ref xTur])), (xSum, .inr (8, [.ref sM, .ref sP, .ref sA, .int 0])), (hH, .inl (cI, 7, (.inl fh))), (hT, .inl (cJ, 7, (.inr (.inl ft)))), (hM, .inl (cJ, 6, (.inr (.inl (fun _ => 0))))), (xHan, .inr (3, [.int 0, .int 0, .int 0, .ref hH, .ref hR, .ref hT, .ref hM]))] H := hP
  have hD : va_D A [(x0, .inr (10, [.ref xTape, .ref xReader, .ref xBag, .ref xBld, .ref xAng, .ref xSum, .ref xPik, .int 0, .ref xHan, .ref xIns, .ref xShr, .ref xSta, .ref xTur])), (xSum, .inr (8, [.ref sM, .ref sP, .ref sA, .int 0])), (hH, .inl (cI, 7, (.inl fh))), (hT, .inl (cJ, 7, (.inr (.inl ft)))), (hM, .inl (cJ, 6, (.inr (.inl (fun _ => 0))))), (xHan, .inr (3, [.int 0, .int 0, .int 0, .ref hH, .ref hR, .ref hT, .ref hM]))] := hD
  refine lv_iconst (v := 0) hx hb dX10_hangSolids_7 (by decide) ?_
  refine lv_istore_n (lv' := [(2, .int 0), (0, .ref x0), (1, .int 13)]) hx hb dX10_hangSolids_8 rfl hl (by decide) rfl (fun ls hl => ?_)
  refine lv_iload_n hx hb dX10_hangSolids_9 rfl (lv_at hl 0 rfl) ?_
  refine lv_iconst (v := 4) hx hb dX10_hangSolids_10 (by decide) ?_
  refine lv_icmp_ge (tgt := 41) hx hb dX10_hangSolids_11 (by decide) (fun c => absurd c (by decide)) (fun _ => ?_)
  refine lv_iload_n hx hb dX10_hangSolids_14 rfl (lv_at hl 2 rfl) ?_
  refine lv_iload_n hx hb dX10_hangSolids_15 rfl (lv_at hl 0 rfl) ?_
  refine lv_ishr hx hb dX10_hangSolids_16 ?_
  refine lv_topi (fun x_1 ex_1 => ?_)
  obtain rfl : x_1 = 13 := ex_1.trans (by first | rfl | decide)
  refine lv_iconst (v := 1) hx hb dX10_hangSolids_17 (by decide) ?_
  refine lv_iand hx hb dX10_hangSolids_18 ?_
  refine lv_topi (fun x_2 ex_2 => ?_)
  obtain rfl : x_2 = 1 := ex_2.trans (by first | rfl | decide)
  refine lv_iconst (v := 1) hx hb dX10_hangSolids_19 (by decide) ?_
  refine lv_icmp_ne (tgt := 35) hx hb dX10_hangSolids_20 (by decide) (fun c => absurd (by decide) c) (fun _ => ?_)
  refine lv_aload_n hx hb dX10_hangSolids_23 rfl (lv_at hl 1 rfl) ?_
  refine va_get (D := (dC, dI)) (ci := 10) (v := .ref xHan) (C := RX10) (T := TX10) (N := 13) hx hb hts hiX10 hown hK hP 0 rfl rfl 8 (by decide) (hts (.fieldLink RX10 61 "ScissorsTable" "hang" "LScissorsTable$Hang;") (by decide +kernel)) (fun _ h9 => h9) rfl dX10_hangSolids_24 ?_
  refine lv_aload_n hx hb dX10_hangSolids_27 rfl (lv_at hl 1 rfl) ?_
  refine va_get (D := (dC, dI)) (ci := 10) (v := .ref xSum) (C := RX10) (T := TX10) (N := 13) hx hb hts hiX10 hown hK hP 0 rfl rfl 5 (by decide) (hts (.fieldLink RX10 51 "ScissorsTable" "sums" "LScissorsTable$Sums;") (by decide +kernel)) (fun _ h9 => h9) rfl dX10_hangSolids_28 ?_
  refine lv_iload_n hx hb dX10_hangSolids_31 rfl (lv_at hl 0 rfl) ?_
  have hPc := hP.sub (ws' := [(xSum, .inr (8, [.ref sM, .ref sP, .ref sA, .int 0])), (xHan, .inr (3, [.int 0, .int 0, .int 0, .ref hH, .ref hR, .ref hT, .ref hM])), (hH, .inl (cI, 7, (.inl fh))), (hT, .inl (cJ, 7, (.inr (.inl ft)))), (hM, .inl (cJ, 6, (.inr (.inl (fun _ => 0)))))]) [1, 5, 2, 3, 4] rfl
  have hDc := hD.sub (ws' := [(xSum, .inr (8, [.ref sM, .ref sP, .ref sA, .int 0])), (xHan, .inr (3, [.int 0, .int 0, .int 0, .ref hH, .ref hR, .ref hT, .ref hM])), (hH, .inl (cI, 7, (.inl fh))), (hT, .inl (cJ, 7, (.inr (.inl ft)))), (hM, .inl (cJ, 6, (.inr (.inl (fun _ => 0)))))]) [1, 5, 2, 3, 4] (by decide) rfl
  have hFc := va_free (wc := [(xSum, .inr (8, [.ref sM, .ref sP, .ref sA, .int 0])), (xHan, .inr (3, [.int 0, .int 0, .int 0, .ref hH, .ref hR, .ref hT, .ref hM])), (hH, .inl (cI, 7, (.inl fh))), (hT, .inl (cJ, 7, (.inr (.inl ft)))), (hM, .inl (cJ, 6, (.inr (.inl (fun _ => 0)))))]) hD hS hA [1, 5, 2, 3, 4] rfl
  refine va_callv (va_runV (As := [.ref xSum, .int 0]) (rest := []) ⟨hx, hb, hml, hown, hts⟩ (c_X3_next_t0 l dC dI cB cI cJ H.size xSum sM sP sA xHan hH hR hT hM 0 fh ft) (cwV 2 hts gX10_hangSolids_X3_next rfl rfl rfl (by decide +kernel) ⟨Nat.le_of_ble_eq_true rfl, Nat.le_of_ble_eq_true rfl⟩) ⟨fun a U g mk q => by obtain ⟨q0, q1, qP, qK, qD, qN0⟩ := q; exact ⟨q0, q1, qP, va_K.moved (u := U) (U := U.calling g mk a) (Vm.Alike.refl U.vm) qK, qD, va_Nw.same rfl rfl qN0⟩, va_recv hK hP (ci := 3) (q0 := 5) rfl rfl, fun U hU hW => ⟨rfl, by rw [hU], by rw [hU]; exact hPc, va_K.moved hW.alike hK, hDc.weaken (fun _ _ _ _ => trivial), va_Nw.warmM hW hN0⟩⟩ rfl rfl hl.1 rfl (lv_room (Nat.le_of_ble_eq_true rfl)) dX10_hangSolids_32 ⟨Nat.le_of_ble_eq_true rfl, Nat.le_of_ble_eq_true rfl⟩) hS (fun q _ h => hFc q h) hFc (fun u t H1 locs ht hvm hw hB hz1 hk1 hS => ?_)
  obtain ⟨hP1, hK1, hD1⟩ := hB
  rw [ht] at hP1
  obtain ⟨hP, hD⟩ := va_join (wr := [(x0, .inr (10, [.ref xTape, .ref xReader, .ref xBag, .ref xBld, .ref xAng, .ref xSum, .ref xPik, .int 0, .ref xHan, .ref xIns, .ref xShr, .ref xSta, .ref xTur]))]) (w1 := [(xHan, .inr (3, [.int 0, .int 1, .int 1, .ref hH, .ref hR, .ref hT, .ref hM])), (xSum, .inr (8, [.ref sM, .ref sP, .ref sA, .int 0])), (hH, .inl (cI, 7, (.inl (upd fh (0 : Int32).toNatClampNeg 0)))), (hT, .inl (cJ, 7, (.inr (.inl (vp_updL ft (0 : Int32).toNatClampNeg 1))))), (hM, .inl (cJ, 6, (.inr (.inl (vp_updL (fun _ => 0) (0 : Int32).toNatClampNeg 1)))))]) hP hD [1, 5, 2, 3, 4] [0] rfl rfl (by decide) (by decide) hk1 hFc hP1 hD1
  generalize H1 = H at hP hS ⊢
  have hP : va_P (dC, dI) vwCl [(x0, .inr (10, [.ref xTape, .ref xReader, .ref xBag, .ref xBld, .ref xAng, .ref xSum, .ref xPik, .int 0, .ref xHan, .ref xIns, .ref xShr, .ref xSta, .ref xTur])), (xHan, .inr (3, [.int 0, .int 1, .int 1, .ref hH, .ref hR, .ref hT, .ref hM])), (xSum, .inr (8, [.ref sM, .ref sP, .ref sA, .int 0])), (hH, .inl (cI, 7, (.inl (upd fh (0 : Int32).toNatClampNeg 0)))), (hT, .inl (cJ, 7, (.inr (.inl (vp_updL ft (0 : Int32).toNatClampNeg 1))))), (hM, .inl (cJ, 6, (.inr (.inl (vp_updL (fun _ => 0) (0 : Int32).toNatClampNeg 1)))))] H := hP
  have hD : va_D A [(x0, .inr (10, [.ref xTape, .ref xReader, .ref xBag, .ref xBld, .ref xAng, .ref xSum, .ref xPik, .int 0, .ref xHan, .ref xIns, .ref xShr, .ref xSta, .ref xTur])), (xHan, .inr (3, [.int 0, .int 1, .int 1, .ref hH, .ref hR, .ref hT, .ref hM])), (xSum, .inr (8, [.ref sM, .ref sP, .ref sA, .int 0])), (hH, .inl (cI, 7, (.inl (upd fh (0 : Int32).toNatClampNeg 0)))), (hT, .inl (cJ, 7, (.inr (.inl (vp_updL ft (0 : Int32).toNatClampNeg 1))))), (hM, .inl (cJ, 6, (.inr (.inl (vp_updL (fun _ => 0) (0 : Int32).toNatClampNeg 1)))))] := hD
  refine lv_iinc (v := 1) (lv' := [(2, .int 1), (0, .ref x0), (1, .int 13)]) hx hb dX10_hangSolids_35 hl (k := 0) rfl (by decide) (by decide) rfl (fun ls hl => ?_)
  refine lv_goto (tgt := 9) hx hb dX10_hangSolids_38 (by decide) ?_
  refine lv_iload_n hx hb dX10_hangSolids_9 rfl (lv_at hl 0 rfl) ?_
  refine lv_iconst (v := 4) hx hb dX10_hangSolids_10 (by decide) ?_
  refine lv_icmp_ge (tgt := 41) hx hb dX10_hangSolids_11 (by decide) (fun c => absurd c (by decide)) (fun _ => ?_)
  refine lv_iload_n hx hb dX10_hangSolids_14 rfl (lv_at hl 2 rfl) ?_
  refine lv_iload_n hx hb dX10_hangSolids_15 rfl (lv_at hl 0 rfl) ?_
  refine lv_ishr hx hb dX10_hangSolids_16 ?_
  refine lv_topi (fun x_3 ex_3 => ?_)
  obtain rfl : x_3 = 6 := ex_3.trans (by first | rfl | decide)
  refine lv_iconst (v := 1) hx hb dX10_hangSolids_17 (by decide) ?_
  refine lv_iand hx hb dX10_hangSolids_18 ?_
  refine lv_topi (fun x_4 ex_4 => ?_)
  obtain rfl : x_4 = 0 := ex_4.trans (by first | rfl | decide)
  refine lv_iconst (v := 1) hx hb dX10_hangSolids_19 (by decide) ?_
  refine lv_icmp_ne (tgt := 35) hx hb dX10_hangSolids_20 (by decide) (fun _ => ?_) (fun c => absurd c (by decide))
  refine lv_iinc (v := 2) (lv' := [(2, .int 2), (0, .ref x0), (1, .int 13)]) hx hb dX10_hangSolids_35 hl (k := 0) rfl (by decide) (by decide) rfl (fun ls hl => ?_)
  refine lv_goto (tgt := 9) hx hb dX10_hangSolids_38 (by decide) ?_
  refine lv_iload_n hx hb dX10_hangSolids_9 rfl (lv_at hl 0 rfl) ?_
  refine lv_iconst (v := 4) hx hb dX10_hangSolids_10 (by decide) ?_
  refine lv_icmp_ge (tgt := 41) hx hb dX10_hangSolids_11 (by decide) (fun c => absurd c (by decide)) (fun _ => ?_)
  refine lv_iload_n hx hb dX10_hangSolids_14 rfl (lv_at hl 2 rfl) ?_
  refine lv_iload_n hx hb dX10_hangSolids_15 rfl (lv_at hl 0 rfl) ?_
  refine lv_ishr hx hb dX10_hangSolids_16 ?_
  refine lv_topi (fun x_5 ex_5 => ?_)
  obtain rfl : x_5 = 3 := ex_5.trans (by first | rfl | decide)
  refine lv_iconst (v := 1) hx hb dX10_hangSolids_17 (by decide) ?_
  refine lv_iand hx hb dX10_hangSolids_18 ?_
  refine lv_topi (fun x_6 ex_6 => ?_)
  obtain rfl : x_6 = 1 := ex_6.trans (by first | rfl | decide)
  refine lv_iconst (v := 1) hx hb dX10_hangSolids_19 (by decide) ?_
  refine lv_icmp_ne (tgt := 35) hx hb dX10_hangSolids_20 (by decide) (fun c => absurd (by decide) c) (fun _ => ?_)
  refine lv_aload_n hx hb dX10_hangSolids_23 rfl (lv_at hl 1 rfl) ?_
  refine va_get (D := (dC, dI)) (ci := 10) (v := .ref xHan) (C := RX10) (T := TX10) (N := 13) hx hb hts hiX10 hown hK hP 0 rfl rfl 8 (by decide) (hts (.fieldLink RX10 61 "ScissorsTable" "hang" "LScissorsTable$Hang;") (by decide +kernel)) (fun _ h9 => h9) rfl dX10_hangSolids_24 ?_
  refine lv_aload_n hx hb dX10_hangSolids_27 rfl (lv_at hl 1 rfl) ?_
  refine va_get (D := (dC, dI)) (ci := 10) (v := .ref xSum) (C := RX10) (T := TX10) (N := 13) hx hb hts hiX10 hown hK hP 0 rfl rfl 5 (by decide) (hts (.fieldLink RX10 51 "ScissorsTable" "sums" "LScissorsTable$Sums;") (by decide +kernel)) (fun _ h9 => h9) rfl dX10_hangSolids_28 ?_
  refine lv_iload_n hx hb dX10_hangSolids_31 rfl (lv_at hl 0 rfl) ?_
  have hPc := hP.sub (ws' := [(xSum, .inr (8, [.ref sM, .ref sP, .ref sA, .int 0])), (xHan, .inr (3, [.int 0, .int 1, .int 1, .ref hH, .ref hR, .ref hT, .ref hM])), (hH, .inl (cI, 7, (.inl (upd fh (0 : Int32).toNatClampNeg 0)))), (hT, .inl (cJ, 7, (.inr (.inl (vp_updL ft (0 : Int32).toNatClampNeg 1)))))]) [2, 1, 3, 4] rfl
  have hDc := hD.sub (ws' := [(xSum, .inr (8, [.ref sM, .ref sP, .ref sA, .int 0])), (xHan, .inr (3, [.int 0, .int 1, .int 1, .ref hH, .ref hR, .ref hT, .ref hM])), (hH, .inl (cI, 7, (.inl (upd fh (0 : Int32).toNatClampNeg 0)))), (hT, .inl (cJ, 7, (.inr (.inl (vp_updL ft (0 : Int32).toNatClampNeg 1)))))]) [2, 1, 3, 4] (by decide) rfl
  have hFc := va_free (wc := [(xSum, .inr (8, [.ref sM, .ref sP, .ref sA, .int 0])), (xHan, .inr (3, [.int 0, .int 1, .int 1, .ref hH, .ref hR, .ref hT, .ref hM])), (hH, .inl (cI, 7, (.inl (upd fh (0 : Int32).toNatClampNeg 0)))), (hT, .inl (cJ, 7, (.inr (.inl (vp_updL ft (0 : Int32).toNatClampNeg 1)))))]) hD hS hA [2, 1, 3, 4] rfl
  refine va_callv (va_runV (As := [.ref xSum, .int 2]) (rest := []) ⟨hx, hb, hml, hown, hts⟩ (c_X3_next_t1 l dC dI cB cI cJ H.size xSum sM sP sA xHan hH hR hT hM 2 (upd fh (0 : Int32).toNatClampNeg 0) (vp_updL ft (0 : Int32).toNatClampNeg 1)) (cwV 2 hts gX10_hangSolids_X3_next rfl rfl rfl (by decide +kernel) ⟨Nat.le_of_ble_eq_true rfl, Nat.le_of_ble_eq_true rfl⟩) ⟨fun a U g mk q => by obtain ⟨q0, q1, qP, qK, qD⟩ := q; exact ⟨q0, q1, qP, va_K.moved (u := U) (U := U.calling g mk a) (Vm.Alike.refl U.vm) qK, qD⟩, va_recv hK hP (ci := 3) (q0 := 1) rfl rfl, fun U hU hW => ⟨rfl, by rw [hU], by rw [hU]; exact hPc, va_K.moved hW.alike hK, hDc.weaken (fun _ _ _ _ => trivial)⟩⟩ rfl rfl hl.1 rfl (lv_room (Nat.le_of_ble_eq_true rfl)) dX10_hangSolids_32 ⟨Nat.le_of_ble_eq_true rfl, Nat.le_of_ble_eq_true rfl⟩) hS (fun q _ h => hFc q h) hFc (fun u t H1 locs ht hvm hw hB hz1 hk1 hS => ?_)
  obtain ⟨hP1, hK1, hD1⟩ := hB
  rw [ht] at hP1
  obtain ⟨hP, hD⟩ := va_join (wr := [(x0, .inr (10, [.ref xTape, .ref xReader, .ref xBag, .ref xBld, .ref xAng, .ref xSum, .ref xPik, .int 0, .ref xHan, .ref xIns, .ref xShr, .ref xSta, .ref xTur])), (hM, .inl (cJ, 6, (.inr (.inl (vp_updL (fun _ => 0) (0 : Int32).toNatClampNeg 1)))))]) (w1 := [(xHan, .inr (3, [.int 0, .int 2, .int 1, .ref hH, .ref hR, .ref hT, .ref hM])), (xSum, .inr (8, [.ref sM, .ref sP, .ref sA, .int 0])), (hH, .inl (cI, 7, (.inl (upd (upd fh (0 : Int32).toNatClampNeg 0) (0 : Int32).toNatClampNeg 2)))), (hT, .inl (cJ, 7, (.inr (.inl (vp_updL (vp_updL ft (0 : Int32).toNatClampNeg 1) (0 : Int32).toNatClampNeg 1)))))]) hP hD [2, 1, 3, 4] [0, 5] rfl rfl (by decide) (by decide) hk1 hFc hP1 hD1
  generalize H1 = H at hP hS ⊢
  have hP : va_P (dC, dI) vwCl [(x0, .inr (10, [.ref xTape, .ref xReader, .ref xBag, .ref xBld, .ref xAng, .ref xSum, .ref xPik, .int 0, .ref xHan, .ref xIns, .ref xShr, .ref xSta, .ref xTur])), (hM, .inl (cJ, 6, (.inr (.inl (vp_updL (fun _ => 0) (0 : Int32).toNatClampNeg 1))))), (xHan, .inr (3, [.int 0, .int 2, .int 1, .ref hH, .ref hR, .ref hT, .ref hM])), (xSum, .inr (8, [.ref sM, .ref sP, .ref sA, .int 0])), (hH, .inl (cI, 7, (.inl (upd (upd fh (0 : Int32).toNatClampNeg 0) (0 : Int32).toNatClampNeg 2)))), (hT, .inl (cJ, 7, (.inr (.inl (vp_updL (vp_updL ft (0 : Int32).toNatClampNeg 1) (0 : Int32).toNatClampNeg 1)))))] H := hP
  have hD : va_D A [(x0, .inr (10, [.ref xTape, .ref xReader, .ref xBag, .ref xBld, .ref xAng, .ref xSum, .ref xPik, .int 0, .ref xHan, .ref xIns, .ref xShr, .ref xSta, .ref xTur])), (hM, .inl (cJ, 6, (.inr (.inl (vp_updL (fun _ => 0) (0 : Int32).toNatClampNeg 1))))), (xHan, .inr (3, [.int 0, .int 2, .int 1, .ref hH, .ref hR, .ref hT, .ref hM])), (xSum, .inr (8, [.ref sM, .ref sP, .ref sA, .int 0])), (hH, .inl (cI, 7, (.inl (upd (upd fh (0 : Int32).toNatClampNeg 0) (0 : Int32).toNatClampNeg 2)))), (hT, .inl (cJ, 7, (.inr (.inl (vp_updL (vp_updL ft (0 : Int32).toNatClampNeg 1) (0 : Int32).toNatClampNeg 1)))))] := hD
  refine lv_iinc (v := 3) (lv' := [(2, .int 3), (0, .ref x0), (1, .int 13)]) hx hb dX10_hangSolids_35 hl (k := 0) rfl (by decide) (by decide) rfl (fun ls hl => ?_)
  refine lv_goto (tgt := 9) hx hb dX10_hangSolids_38 (by decide) ?_
  refine lv_iload_n hx hb dX10_hangSolids_9 rfl (lv_at hl 0 rfl) ?_
  refine lv_iconst (v := 4) hx hb dX10_hangSolids_10 (by decide) ?_
  refine lv_icmp_ge (tgt := 41) hx hb dX10_hangSolids_11 (by decide) (fun c => absurd c (by decide)) (fun _ => ?_)
  refine lv_iload_n hx hb dX10_hangSolids_14 rfl (lv_at hl 2 rfl) ?_
  refine lv_iload_n hx hb dX10_hangSolids_15 rfl (lv_at hl 0 rfl) ?_
  refine lv_ishr hx hb dX10_hangSolids_16 ?_
  refine lv_topi (fun x_7 ex_7 => ?_)
  obtain rfl : x_7 = 1 := ex_7.trans (by first | rfl | decide)
  refine lv_iconst (v := 1) hx hb dX10_hangSolids_17 (by decide) ?_
  refine lv_iand hx hb dX10_hangSolids_18 ?_
  refine lv_topi (fun x_8 ex_8 => ?_)
  obtain rfl : x_8 = 1 := ex_8.trans (by first | rfl | decide)
  refine lv_iconst (v := 1) hx hb dX10_hangSolids_19 (by decide) ?_
  refine lv_icmp_ne (tgt := 35) hx hb dX10_hangSolids_20 (by decide) (fun c => absurd (by decide) c) (fun _ => ?_)
  refine lv_aload_n hx hb dX10_hangSolids_23 rfl (lv_at hl 1 rfl) ?_
  refine va_get (D := (dC, dI)) (ci := 10) (v := .ref xHan) (C := RX10) (T := TX10) (N := 13) hx hb hts hiX10 hown hK hP 0 rfl rfl 8 (by decide) (hts (.fieldLink RX10 61 "ScissorsTable" "hang" "LScissorsTable$Hang;") (by decide +kernel)) (fun _ h9 => h9) rfl dX10_hangSolids_24 ?_
  refine lv_aload_n hx hb dX10_hangSolids_27 rfl (lv_at hl 1 rfl) ?_
  refine va_get (D := (dC, dI)) (ci := 10) (v := .ref xSum) (C := RX10) (T := TX10) (N := 13) hx hb hts hiX10 hown hK hP 0 rfl rfl 5 (by decide) (hts (.fieldLink RX10 51 "ScissorsTable" "sums" "LScissorsTable$Sums;") (by decide +kernel)) (fun _ h9 => h9) rfl dX10_hangSolids_28 ?_
  refine lv_iload_n hx hb dX10_hangSolids_31 rfl (lv_at hl 0 rfl) ?_
  have hPc := hP.sub (ws' := [(xSum, .inr (8, [.ref sM, .ref sP, .ref sA, .int 0])), (xHan, .inr (3, [.int 0, .int 2, .int 1, .ref hH, .ref hR, .ref hT, .ref hM])), (hH, .inl (cI, 7, (.inl (upd (upd fh (0 : Int32).toNatClampNeg 0) (0 : Int32).toNatClampNeg 2)))), (hT, .inl (cJ, 7, (.inr (.inl (vp_updL (vp_updL ft (0 : Int32).toNatClampNeg 1) (0 : Int32).toNatClampNeg 1)))))]) [3, 2, 4, 5] rfl
  have hDc := hD.sub (ws' := [(xSum, .inr (8, [.ref sM, .ref sP, .ref sA, .int 0])), (xHan, .inr (3, [.int 0, .int 2, .int 1, .ref hH, .ref hR, .ref hT, .ref hM])), (hH, .inl (cI, 7, (.inl (upd (upd fh (0 : Int32).toNatClampNeg 0) (0 : Int32).toNatClampNeg 2)))), (hT, .inl (cJ, 7, (.inr (.inl (vp_updL (vp_updL ft (0 : Int32).toNatClampNeg 1) (0 : Int32).toNatClampNeg 1)))))]) [3, 2, 4, 5] (by decide) rfl
  have hFc := va_free (wc := [(xSum, .inr (8, [.ref sM, .ref sP, .ref sA, .int 0])), (xHan, .inr (3, [.int 0, .int 2, .int 1, .ref hH, .ref hR, .ref hT, .ref hM])), (hH, .inl (cI, 7, (.inl (upd (upd fh (0 : Int32).toNatClampNeg 0) (0 : Int32).toNatClampNeg 2)))), (hT, .inl (cJ, 7, (.inr (.inl (vp_updL (vp_updL ft (0 : Int32).toNatClampNeg 1) (0 : Int32).toNatClampNeg 1)))))]) hD hS hA [3, 2, 4, 5] rfl
  refine va_callv (va_runV (As := [.ref xSum, .int 3]) (rest := []) ⟨hx, hb, hml, hown, hts⟩ (c_X3_next_t2 l dC dI cB cI cJ H.size xSum sM sP sA xHan hH hR hT hM 3 (upd (upd fh (0 : Int32).toNatClampNeg 0) (0 : Int32).toNatClampNeg 2) (vp_updL (vp_updL ft (0 : Int32).toNatClampNeg 1) (0 : Int32).toNatClampNeg 1)) (cwV 2 hts gX10_hangSolids_X3_next rfl rfl rfl (by decide +kernel) ⟨Nat.le_of_ble_eq_true rfl, Nat.le_of_ble_eq_true rfl⟩) ⟨fun a U g mk q => by obtain ⟨q0, q1, qP, qK, qD⟩ := q; exact ⟨q0, q1, qP, va_K.moved (u := U) (U := U.calling g mk a) (Vm.Alike.refl U.vm) qK, qD⟩, va_recv hK hP (ci := 3) (q0 := 2) rfl rfl, fun U hU hW => ⟨rfl, by rw [hU], by rw [hU]; exact hPc, va_K.moved hW.alike hK, hDc.weaken (fun _ _ _ _ => trivial)⟩⟩ rfl rfl hl.1 rfl (lv_room (Nat.le_of_ble_eq_true rfl)) dX10_hangSolids_32 ⟨Nat.le_of_ble_eq_true rfl, Nat.le_of_ble_eq_true rfl⟩) hS (fun q _ h => hFc q h) hFc (fun u t H1 locs ht hvm hw hB hz1 hk1 hS => ?_)
  obtain ⟨hP1, hK1, hD1⟩ := hB
  rw [ht] at hP1
  obtain ⟨hP, hD⟩ := va_join (wr := [(x0, .inr (10, [.ref xTape, .ref xReader, .ref xBag, .ref xBld, .ref xAng, .ref xSum, .ref xPik, .int 0, .ref xHan, .ref xIns, .ref xShr, .ref xSta, .ref xTur])), (hM, .inl (cJ, 6, (.inr (.inl (vp_updL (fun _ => 0) (0 : Int32).toNatClampNeg 1)))))]) (w1 := [(xHan, .inr (3, [.int 0, .int 3, .int 1, .ref hH, .ref hR, .ref hT, .ref hM])), (xSum, .inr (8, [.ref sM, .ref sP, .ref sA, .int 0])), (hH, .inl (cI, 7, (.inl (upd (upd (upd fh (0 : Int32).toNatClampNeg 0) (0 : Int32).toNatClampNeg 2) (0 : Int32).toNatClampNeg 3)))), (hT, .inl (cJ, 7, (.inr (.inl (vp_updL (vp_updL (vp_updL ft (0 : Int32).toNatClampNeg 1) (0 : Int32).toNatClampNeg 1) (0 : Int32).toNatClampNeg 1)))))]) hP hD [3, 2, 4, 5] [0, 1] rfl rfl (by decide) (by decide) hk1 hFc hP1 hD1
  generalize H1 = H at hP hS ⊢
  have hP : va_P (dC, dI) vwCl [(x0, .inr (10, [.ref xTape, .ref xReader, .ref xBag, .ref xBld, .ref xAng, .ref xSum, .ref xPik, .int 0, .ref xHan, .ref xIns, .ref xShr, .ref xSta, .ref xTur])), (hM, .inl (cJ, 6, (.inr (.inl (vp_updL (fun _ => 0) (0 : Int32).toNatClampNeg 1))))), (xHan, .inr (3, [.int 0, .int 3, .int 1, .ref hH, .ref hR, .ref hT, .ref hM])), (xSum, .inr (8, [.ref sM, .ref sP, .ref sA, .int 0])), (hH, .inl (cI, 7, (.inl (upd (upd (upd fh (0 : Int32).toNatClampNeg 0) (0 : Int32).toNatClampNeg 2) (0 : Int32).toNatClampNeg 3)))), (hT, .inl (cJ, 7, (.inr (.inl (vp_updL (vp_updL (vp_updL ft (0 : Int32).toNatClampNeg 1) (0 : Int32).toNatClampNeg 1) (0 : Int32).toNatClampNeg 1)))))] H := hP
  have hD : va_D A [(x0, .inr (10, [.ref xTape, .ref xReader, .ref xBag, .ref xBld, .ref xAng, .ref xSum, .ref xPik, .int 0, .ref xHan, .ref xIns, .ref xShr, .ref xSta, .ref xTur])), (hM, .inl (cJ, 6, (.inr (.inl (vp_updL (fun _ => 0) (0 : Int32).toNatClampNeg 1))))), (xHan, .inr (3, [.int 0, .int 3, .int 1, .ref hH, .ref hR, .ref hT, .ref hM])), (xSum, .inr (8, [.ref sM, .ref sP, .ref sA, .int 0])), (hH, .inl (cI, 7, (.inl (upd (upd (upd fh (0 : Int32).toNatClampNeg 0) (0 : Int32).toNatClampNeg 2) (0 : Int32).toNatClampNeg 3)))), (hT, .inl (cJ, 7, (.inr (.inl (vp_updL (vp_updL (vp_updL ft (0 : Int32).toNatClampNeg 1) (0 : Int32).toNatClampNeg 1) (0 : Int32).toNatClampNeg 1)))))] := hD
  refine lv_iinc (v := 4) (lv' := [(2, .int 4), (0, .ref x0), (1, .int 13)]) hx hb dX10_hangSolids_35 hl (k := 0) rfl (by decide) (by decide) rfl (fun ls hl => ?_)
  refine lv_goto (tgt := 9) hx hb dX10_hangSolids_38 (by decide) ?_
  refine lv_iload_n hx hb dX10_hangSolids_9 rfl (lv_at hl 0 rfl) ?_
  refine lv_iconst (v := 4) hx hb dX10_hangSolids_10 (by decide) ?_
  refine lv_icmp_ge (tgt := 41) hx hb dX10_hangSolids_11 (by decide) (fun _ => ?_) (fun c => absurd (by decide) c)
  have hP9 := hP.sub (ws' := [(x0, .inr (10, [.ref xTape, .ref xReader, .ref xBag, .ref xBld, .ref xAng, .ref xSum, .ref xPik, .int 0, .ref xHan, .ref xIns, .ref xShr, .ref xSta, .ref xTur])), (xHan, .inr (3, [.int 0, .int 3, .int 1, .ref hH, .ref hR, .ref hT, .ref hM])), (xSum, .inr (8, [.ref sM, .ref sP, .ref sA, .int 0])), (hH, .inl (cI, 7, (.inl (upd (upd (upd fh (0 : Int32).toNatClampNeg 0) (0 : Int32).toNatClampNeg 2) (0 : Int32).toNatClampNeg 3)))), (hT, .inl (cJ, 7, (.inr (.inl (vp_updL (vp_updL (vp_updL ft (0 : Int32).toNatClampNeg 1) (0 : Int32).toNatClampNeg 1) (0 : Int32).toNatClampNeg 1))))), (hM, .inl (cJ, 6, (.inr (.inl (vp_updL (fun _ => 0) (0 : Int32).toNatClampNeg 1)))))]) [0, 2, 3, 4, 5, 1] rfl
  have hD9 := hD.sub (ws' := [(x0, .inr (10, [.ref xTape, .ref xReader, .ref xBag, .ref xBld, .ref xAng, .ref xSum, .ref xPik, .int 0, .ref xHan, .ref xIns, .ref xShr, .ref xSta, .ref xTur])), (xHan, .inr (3, [.int 0, .int 3, .int 1, .ref hH, .ref hR, .ref hT, .ref hM])), (xSum, .inr (8, [.ref sM, .ref sP, .ref sA, .int 0])), (hH, .inl (cI, 7, (.inl (upd (upd (upd fh (0 : Int32).toNatClampNeg 0) (0 : Int32).toNatClampNeg 2) (0 : Int32).toNatClampNeg 3)))), (hT, .inl (cJ, 7, (.inr (.inl (vp_updL (vp_updL (vp_updL ft (0 : Int32).toNatClampNeg 1) (0 : Int32).toNatClampNeg 1) (0 : Int32).toNatClampNeg 1))))), (hM, .inl (cJ, 6, (.inr (.inl (vp_updL (fun _ => 0) (0 : Int32).toNatClampNeg 1)))))]) [0, 2, 3, 4, 5, 1] (by decide) rfl
  refine W.widen (k := 0) (n := 0) (Nat.le_of_ble_eq_true rfl) (Nat.le_of_ble_eq_true rfl) ?_
  exact W.vret hx hb hr (fun t ht hW => ⟨⟨(), rfl, trivial, by rw [ht]; exact hP9, va_K.moved hW.alike hK, hD9⟩, hS.F ht⟩) hS.2.2 dX10_hangSolids_41
set_option maxHeartbeats 4000000 in
set_option maxRecDepth 100000 in
theorem c_X10_hangSolids_14 (l : Launch) (dC : Nat → ClassId) (dI : Nat → Nat → Nat) (cB cI cJ : ClassId) (sz : Nat) (x0 xTape xReader xBag xBld xAng xSum xPik xHan xIns xShr xSta xTur sM sP sA hH hR hT hM : Nat) (fh : Nat → Int32) (ft : Nat → Int64) : Met l yX10_hangSolids wsX10_hangSolids ({ frames := 5, cells := 0, slots := 0, locals := 118 }) (va_Pc [.ref x0, .int 14] (fun U => U.heap.size = sz ∧ va_P (dC, dI) vwCl [(x0, .inr (10, [.ref xTape, .ref xReader, .ref xBag, .ref xBld, .ref xAng, .ref xSum, .ref xPik, .int 0, .ref xHan, .ref xIns, .ref xShr, .ref xSta, .ref xTur])), (xSum, .inr (8, [.ref sM, .ref sP, .ref sA, .int 0])), (xHan, .inr (3, [.int 0, .int 0, .int 0, .ref hH, .ref hR, .ref hT, .ref hM])), (hH, .inl (cI, 7, (.inl fh))), (hT, .inl (cJ, 7, (.inr (.inl ft)))), (hM, .inl (cJ, 6, (.inr (.inl (fun _ => 0)))))] U.heap ∧ va_K (dC, dI) vwCl [(cB, .byte), (cI, .int), (cJ, .long)] U ∧ va_D (fun _ => True) [(x0, .inr (10, [.ref xTape, .ref xReader, .ref xBag, .ref xBld, .ref xAng, .ref xSum, .ref xPik, .int 0, .ref xHan, .ref xIns, .ref xShr, .ref xSta, .ref xTur])), (xSum, .inr (8, [.ref sM, .ref sP, .ref sA, .int 0])), (xHan, .inr (3, [.int 0, .int 0, .int 0, .ref hH, .ref hR, .ref hT, .ref hM])), (hH, .inl (cI, 7, (.inl fh))), (hT, .inl (cJ, 7, (.inr (.inl ft)))), (hM, .inl (cJ, 6, (.inr (.inl (fun _ => 0)))))] ∧ va_Nw (.methodLinkNest RX3 62 yX10_gcd "ScissorsTable") U)) (va_Qv (fun _ : Unit => True) (fun _ t => va_P (dC, dI) vwCl [(x0, .inr (10, [.ref xTape, .ref xReader, .ref xBag, .ref xBld, .ref xAng, .ref xSum, .ref xPik, .int 0, .ref xHan, .ref xIns, .ref xShr, .ref xSta, .ref xTur])), (xHan, .inr (3, [.int 0, .int 3, .int 1, .ref hH, .ref hR, .ref hT, .ref hM])), (xSum, .inr (8, [.ref sM, .ref sP, .ref sA, .int 0])), (hH, .inl (cI, 7, (.inl (upd (upd (upd fh (0 : Int32).toNatClampNeg 1) (0 : Int32).toNatClampNeg 2) (0 : Int32).toNatClampNeg 3)))), (hT, .inl (cJ, 7, (.inr (.inl (vp_updL (vp_updL (vp_updL ft (0 : Int32).toNatClampNeg 1) (0 : Int32).toNatClampNeg 1) (0 : Int32).toNatClampNeg 1))))), (hM, .inl (cJ, 6, (.inr (.inl (vp_updL (fun _ => 0) (0 : Int32).toNatClampNeg 1)))))] t.heap ∧ va_K (dC, dI) vwCl [(cB, .byte), (cI, .int), (cJ, .long)] t ∧ va_D (va_A [(x0, .inr (10, [.ref xTape, .ref xReader, .ref xBag, .ref xBld, .ref xAng, .ref xSum, .ref xPik, .int 0, .ref xHan, .ref xIns, .ref xShr, .ref xSta, .ref xTur])), (xSum, .inr (8, [.ref sM, .ref sP, .ref sA, .int 0])), (xHan, .inr (3, [.int 0, .int 0, .int 0, .ref hH, .ref hR, .ref hT, .ref hM])), (hH, .inl (cI, 7, (.inl fh))), (hT, .inl (cJ, 7, (.inr (.inl ft)))), (hM, .inl (cJ, 6, (.inr (.inl (fun _ => 0)))))] sz) [(x0, .inr (10, [.ref xTape, .ref xReader, .ref xBag, .ref xBld, .ref xAng, .ref xSum, .ref xPik, .int 0, .ref xHan, .ref xIns, .ref xShr, .ref xSta, .ref xTur])), (xHan, .inr (3, [.int 0, .int 3, .int 1, .ref hH, .ref hR, .ref hT, .ref hM])), (xSum, .inr (8, [.ref sM, .ref sP, .ref sA, .int 0])), (hH, .inl (cI, 7, (.inl (upd (upd (upd fh (0 : Int32).toNatClampNeg 1) (0 : Int32).toNatClampNeg 2) (0 : Int32).toNatClampNeg 3)))), (hT, .inl (cJ, 7, (.inr (.inl (vp_updL (vp_updL (vp_updL ft (0 : Int32).toNatClampNeg 1) (0 : Int32).toNatClampNeg 1) (0 : Int32).toNatClampNeg 1))))), (hM, .inl (cJ, 6, (.inr (.inl (vp_updL (fun _ => 0) (0 : Int32).toNatClampNeg 1)))))]) (va_A [(x0, .inr (10, [.ref xTape, .ref xReader, .ref xBag, .ref xBld, .ref xAng, .ref xSum, .ref xPik, .int 0, .ref xHan, .ref xIns, .ref xShr, .ref xSta, .ref xTur])), (xSum, .inr (8, [.ref sM, .ref sP, .ref sA, .int 0])), (xHan, .inr (3, [.int 0, .int 0, .int 0, .ref hH, .ref hR, .ref hT, .ref hM])), (hH, .inl (cI, 7, (.inl fh))), (hT, .inl (cJ, 7, (.inr (.inl ft)))), (hM, .inl (cJ, 6, (.inr (.inl (fun _ => 0)))))] sz)) 0 0 (va_A [(x0, .inr (10, [.ref xTape, .ref xReader, .ref xBag, .ref xBld, .ref xAng, .ref xSum, .ref xPik, .int 0, .ref xHan, .ref xIns, .ref xShr, .ref xSta, .ref xTur])), (xSum, .inr (8, [.ref sM, .ref sP, .ref sA, .int 0])), (xHan, .inr (3, [.int 0, .int 0, .int 0, .ref hH, .ref hR, .ref hT, .ref hM])), (hH, .inl (cI, 7, (.inl fh))), (hT, .inl (cJ, 7, (.inr (.inl ft)))), (hM, .inl (cJ, 6, (.inr (.inl (fun _ => 0)))))] sz) := by
  refine Met.ofW (cc := cX10_hangSolids) (maxL := 3) (ret := none) (by decide) rfl ?_
  intro p e s m args below meth c s₁ B hml hv
  obtain ⟨rfl, hsz, hP, hK, hD0, hN0⟩ := hv
  have hx := B.exec
  have hb := B.bytes
  have hr := B.returns
  have hts := atoms_spec (ws := wsX10_hangSolids) B.pre
  have hown : s.vm.findClass RX10 = some m.cls := findClass_of_methodNamed B.named
  have hlocks := B.notSynchronized
  have hiX10 : ∀ w ∈ u_ws RX10 TX10 13, w ∈ wsX10_hangSolids := by decide +kernel
  subst hsz
  have hD := hD0.self (sz := s.heap.size)
  generalize hAe : va_A [(x0, .inr (10, [.ref xTape, .ref xReader, .ref xBag, .ref xBld, .ref xAng, .ref xSum, .ref xPik, .int 0, .ref xHan, .ref xIns, .ref xShr, .ref xSta, .ref xTur])), (xSum, .inr (8, [.ref sM, .ref sP, .ref sA, .int 0])), (xHan, .inr (3, [.int 0, .int 0, .int 0, .ref hH, .ref hR, .ref hT, .ref hM])), (hH, .inl (cI, 7, (.inl fh))), (hT, .inl (cJ, 7, (.inr (.inl ft)))), (hM, .inl (cJ, 6, (.inr (.inl (fun _ => 0)))))] s.heap.size = A at hD ⊢
  have hA : ∀ q : Nat, s.heap.size ≤ q → A q := fun q h => by rw [← hAe]; exact Or.inr h
  have hS : va_S A s.heap s.heap [] := va_S.rf
  have hP : va_P (dC, dI) vwCl [(x0, .inr (10, [.ref xTape, .ref xReader, .ref xBag, .ref xBld, .ref xAng, .ref xSum, .ref xPik, .int 0, .ref xHan, .ref xIns, .ref xShr, .ref xSta, .ref xTur])), (xSum, .inr (8, [.ref sM, .ref sP, .ref sA, .int 0])), (xHan, .inr (3, [.int 0, .int 0, .int 0, .ref hH, .ref hR, .ref hT, .ref hM])), (hH, .inl (cI, 7, (.inl fh))), (hT, .inl (cJ, 7, (.inr (.inl ft)))), (hM, .inl (cJ, 6, (.inr (.inl (fun _ => 0)))))] s.heap := hP
  have hl := lv_entry ([.ref x0, .int 14]) (n := 3) (Nat.le_of_ble_eq_true rfl)
  rw [lg_entry_eq]
  generalize (lg_sl ([.ref x0, .int 14]) ++ List.replicate (3 - (lg_sl ([.ref x0, .int 14])).length) Slot.unset).toArray = ls at hl ⊢
  have hl : lv_has ls 3 [(0, .ref x0), (1, .int 14)] := hl
  refine lv_aload_n hx hb dX10_hangSolids_0 rfl (lv_at hl 0 rfl) ?_
  refine va_get (D := (dC, dI)) (ci := 10) (v := .ref xHan) (C := RX10) (T := TX10) (N := 13) hx hb hts hiX10 hown hK hP 0 rfl rfl 8 (by decide) (hts (.fieldLink RX10 61 "ScissorsTable" "hang" "LScissorsTable$Hang;") (by decide +kernel)) (fun _ h9 => h9) rfl dX10_hangSolids_1 ?_
  have hPc := hP.sub (ws' := [(xHan, .inr (3, [.int 0, .int 0, .int 0, .ref hH, .ref hR, .ref hT, .ref hM]))]) [2] rfl
  have hDc := hD.sub (ws' := [(xHan, .inr (3, [.int 0, .int 0, .int 0, .ref hH, .ref hR, .ref hT, .ref hM]))]) [2] (by decide) rfl
  have hFc := va_free (wc := [(xHan, .inr (3, [.int 0, .int 0, .int 0, .ref hH, .ref hR, .ref hT, .ref hM]))]) hD hS hA [2] rfl
  refine va_callv (va_runV (As := []) (rest := []) ⟨hx, hb, hml, hown, hts⟩ (c_X3_begin l dC dI cB cI cJ s.heap.size xHan hH hR hT hM) (cwV 0 hts gX10_hangSolids_X3_begin rfl rfl rfl (by decide +kernel) ⟨Nat.le_of_ble_eq_true rfl, Nat.le_of_ble_eq_true rfl⟩) ⟨fun a U g mk q => by obtain ⟨q0, q1, qP, qK, qD⟩ := q; exact ⟨q0, q1, qP, va_K.moved (u := U) (U := U.calling g mk a) (Vm.Alike.refl U.vm) qK, qD⟩, va_recv hK hP (ci := 3) (q0 := 2) rfl rfl, fun U hU hW => ⟨rfl, by rw [hU], by rw [hU]; exact hPc, va_K.moved hW.alike hK, hDc.weaken (fun _ _ _ _ => trivial)⟩⟩ rfl rfl hl.1 rfl (lv_room (Nat.le_of_ble_eq_true rfl)) dX10_hangSolids_4 ⟨Nat.le_of_ble_eq_true rfl, Nat.le_of_ble_eq_true rfl⟩) hS (fun q _ h => hFc q h) hFc (fun u t H1 locs ht hvm hw hB hz1 hk1 hS => ?_)
  obtain ⟨hP1, hK1, hD1⟩ := hB
  rw [ht] at hP1
  obtain ⟨hP, hD⟩ := va_join (wr := [(x0, .inr (10, [.ref xTape, .ref xReader, .ref xBag, .ref xBld, .ref xAng, .ref xSum, .ref xPik, .int 0, .ref xHan, .ref xIns, .ref xShr, .ref xSta, .ref xTur])), (xSum, .inr (8, [.ref sM, .ref sP, .ref sA, .int 0])), (hH, .inl (cI, 7, (.inl fh))), (hT, .inl (cJ, 7, (.inr (.inl ft)))), (hM, .inl (cJ, 6, (.inr (.inl (fun _ => 0)))))]) (w1 := [(xHan, .inr (3, [.int 0, .int 0, .int 0, .ref hH, .ref hR, .ref hT, .ref hM]))]) hP hD [2] [0, 1, 3, 4, 5] rfl rfl (by decide) (by decide) hk1 hFc hP1 hD1
  generalize H1 = H at hP hS ⊢
  have hP : va_P (dC, dI) vwCl [(x0, .inr (10, [.ref xTape, .ref xReader, .ref xBag, .ref xBld, .ref xAng, .ref xSum, .ref xPik, .int 0, .ref xHan, .ref xIns, .ref xShr, .ref xSta, .ref xTur])), (xSum, .inr (8, [.ref sM, .ref sP, .ref sA, .int 0])), (hH, .inl (cI, 7, (.inl fh))), (hT, .inl (cJ, 7, (.inr (.inl ft)))), (hM, .inl (cJ, 6, (.inr (.inl (fun _ => 0))))), (xHan, .inr (3, [.int 0, .int 0, .int 0, .ref hH, .ref hR, .ref hT, .ref hM]))] H := hP
  have hD : va_D A [(x0, .inr (10, [.ref xTape, .ref xReader, .ref xBag, .ref xBld, .ref xAng, .ref xSum, .ref xPik, .int 0, .ref xHan, .ref xIns, .ref xShr, .ref xSta, .ref xTur])), (xSum, .inr (8, [.ref sM, .ref sP, .ref sA, .int 0])), (hH, .inl (cI, 7, (.inl fh))), (hT, .inl (cJ, 7, (.inr (.inl ft)))), (hM, .inl (cJ, 6, (.inr (.inl (fun _ => 0))))), (xHan, .inr (3, [.int 0, .int 0, .int 0, .ref hH, .ref hR, .ref hT, .ref hM]))] := hD
  refine lv_iconst (v := 0) hx hb dX10_hangSolids_7 (by decide) ?_
  refine lv_istore_n (lv' := [(2, .int 0), (0, .ref x0), (1, .int 14)]) hx hb dX10_hangSolids_8 rfl hl (by decide) rfl (fun ls hl => ?_)
  refine lv_iload_n hx hb dX10_hangSolids_9 rfl (lv_at hl 0 rfl) ?_
  refine lv_iconst (v := 4) hx hb dX10_hangSolids_10 (by decide) ?_
  refine lv_icmp_ge (tgt := 41) hx hb dX10_hangSolids_11 (by decide) (fun c => absurd c (by decide)) (fun _ => ?_)
  refine lv_iload_n hx hb dX10_hangSolids_14 rfl (lv_at hl 2 rfl) ?_
  refine lv_iload_n hx hb dX10_hangSolids_15 rfl (lv_at hl 0 rfl) ?_
  refine lv_ishr hx hb dX10_hangSolids_16 ?_
  refine lv_topi (fun x_1 ex_1 => ?_)
  obtain rfl : x_1 = 14 := ex_1.trans (by first | rfl | decide)
  refine lv_iconst (v := 1) hx hb dX10_hangSolids_17 (by decide) ?_
  refine lv_iand hx hb dX10_hangSolids_18 ?_
  refine lv_topi (fun x_2 ex_2 => ?_)
  obtain rfl : x_2 = 0 := ex_2.trans (by first | rfl | decide)
  refine lv_iconst (v := 1) hx hb dX10_hangSolids_19 (by decide) ?_
  refine lv_icmp_ne (tgt := 35) hx hb dX10_hangSolids_20 (by decide) (fun _ => ?_) (fun c => absurd c (by decide))
  refine lv_iinc (v := 1) (lv' := [(2, .int 1), (0, .ref x0), (1, .int 14)]) hx hb dX10_hangSolids_35 hl (k := 0) rfl (by decide) (by decide) rfl (fun ls hl => ?_)
  refine lv_goto (tgt := 9) hx hb dX10_hangSolids_38 (by decide) ?_
  refine lv_iload_n hx hb dX10_hangSolids_9 rfl (lv_at hl 0 rfl) ?_
  refine lv_iconst (v := 4) hx hb dX10_hangSolids_10 (by decide) ?_
  refine lv_icmp_ge (tgt := 41) hx hb dX10_hangSolids_11 (by decide) (fun c => absurd c (by decide)) (fun _ => ?_)
  refine lv_iload_n hx hb dX10_hangSolids_14 rfl (lv_at hl 2 rfl) ?_
  refine lv_iload_n hx hb dX10_hangSolids_15 rfl (lv_at hl 0 rfl) ?_
  refine lv_ishr hx hb dX10_hangSolids_16 ?_
  refine lv_topi (fun x_3 ex_3 => ?_)
  obtain rfl : x_3 = 7 := ex_3.trans (by first | rfl | decide)
  refine lv_iconst (v := 1) hx hb dX10_hangSolids_17 (by decide) ?_
  refine lv_iand hx hb dX10_hangSolids_18 ?_
  refine lv_topi (fun x_4 ex_4 => ?_)
  obtain rfl : x_4 = 1 := ex_4.trans (by first | rfl | decide)
  refine lv_iconst (v := 1) hx hb dX10_hangSolids_19 (by decide) ?_
  refine lv_icmp_ne (tgt := 35) hx hb dX10_hangSolids_20 (by decide) (fun c => absurd (by decide) c) (fun _ => ?_)
  refine lv_aload_n hx hb dX10_hangSolids_23 rfl (lv_at hl 1 rfl) ?_
  refine va_get (D := (dC, dI)) (ci := 10) (v := .ref xHan) (C := RX10) (T := TX10) (N := 13) hx hb hts hiX10 hown hK hP 0 rfl rfl 8 (by decide) (hts (.fieldLink RX10 61 "ScissorsTable" "hang" "LScissorsTable$Hang;") (by decide +kernel)) (fun _ h9 => h9) rfl dX10_hangSolids_24 ?_
  refine lv_aload_n hx hb dX10_hangSolids_27 rfl (lv_at hl 1 rfl) ?_
  refine va_get (D := (dC, dI)) (ci := 10) (v := .ref xSum) (C := RX10) (T := TX10) (N := 13) hx hb hts hiX10 hown hK hP 0 rfl rfl 5 (by decide) (hts (.fieldLink RX10 51 "ScissorsTable" "sums" "LScissorsTable$Sums;") (by decide +kernel)) (fun _ h9 => h9) rfl dX10_hangSolids_28 ?_
  refine lv_iload_n hx hb dX10_hangSolids_31 rfl (lv_at hl 0 rfl) ?_
  have hPc := hP.sub (ws' := [(xSum, .inr (8, [.ref sM, .ref sP, .ref sA, .int 0])), (xHan, .inr (3, [.int 0, .int 0, .int 0, .ref hH, .ref hR, .ref hT, .ref hM])), (hH, .inl (cI, 7, (.inl fh))), (hT, .inl (cJ, 7, (.inr (.inl ft)))), (hM, .inl (cJ, 6, (.inr (.inl (fun _ => 0)))))]) [1, 5, 2, 3, 4] rfl
  have hDc := hD.sub (ws' := [(xSum, .inr (8, [.ref sM, .ref sP, .ref sA, .int 0])), (xHan, .inr (3, [.int 0, .int 0, .int 0, .ref hH, .ref hR, .ref hT, .ref hM])), (hH, .inl (cI, 7, (.inl fh))), (hT, .inl (cJ, 7, (.inr (.inl ft)))), (hM, .inl (cJ, 6, (.inr (.inl (fun _ => 0)))))]) [1, 5, 2, 3, 4] (by decide) rfl
  have hFc := va_free (wc := [(xSum, .inr (8, [.ref sM, .ref sP, .ref sA, .int 0])), (xHan, .inr (3, [.int 0, .int 0, .int 0, .ref hH, .ref hR, .ref hT, .ref hM])), (hH, .inl (cI, 7, (.inl fh))), (hT, .inl (cJ, 7, (.inr (.inl ft)))), (hM, .inl (cJ, 6, (.inr (.inl (fun _ => 0)))))]) hD hS hA [1, 5, 2, 3, 4] rfl
  refine va_callv (va_runV (As := [.ref xSum, .int 1]) (rest := []) ⟨hx, hb, hml, hown, hts⟩ (c_X3_next_t0 l dC dI cB cI cJ H.size xSum sM sP sA xHan hH hR hT hM 1 fh ft) (cwV 2 hts gX10_hangSolids_X3_next rfl rfl rfl (by decide +kernel) ⟨Nat.le_of_ble_eq_true rfl, Nat.le_of_ble_eq_true rfl⟩) ⟨fun a U g mk q => by obtain ⟨q0, q1, qP, qK, qD, qN0⟩ := q; exact ⟨q0, q1, qP, va_K.moved (u := U) (U := U.calling g mk a) (Vm.Alike.refl U.vm) qK, qD, va_Nw.same rfl rfl qN0⟩, va_recv hK hP (ci := 3) (q0 := 5) rfl rfl, fun U hU hW => ⟨rfl, by rw [hU], by rw [hU]; exact hPc, va_K.moved hW.alike hK, hDc.weaken (fun _ _ _ _ => trivial), va_Nw.warmM hW hN0⟩⟩ rfl rfl hl.1 rfl (lv_room (Nat.le_of_ble_eq_true rfl)) dX10_hangSolids_32 ⟨Nat.le_of_ble_eq_true rfl, Nat.le_of_ble_eq_true rfl⟩) hS (fun q _ h => hFc q h) hFc (fun u t H1 locs ht hvm hw hB hz1 hk1 hS => ?_)
  obtain ⟨hP1, hK1, hD1⟩ := hB
  rw [ht] at hP1
  obtain ⟨hP, hD⟩ := va_join (wr := [(x0, .inr (10, [.ref xTape, .ref xReader, .ref xBag, .ref xBld, .ref xAng, .ref xSum, .ref xPik, .int 0, .ref xHan, .ref xIns, .ref xShr, .ref xSta, .ref xTur]))]) (w1 := [(xHan, .inr (3, [.int 0, .int 1, .int 1, .ref hH, .ref hR, .ref hT, .ref hM])), (xSum, .inr (8, [.ref sM, .ref sP, .ref sA, .int 0])), (hH, .inl (cI, 7, (.inl (upd fh (0 : Int32).toNatClampNeg 1)))), (hT, .inl (cJ, 7, (.inr (.inl (vp_updL ft (0 : Int32).toNatClampNeg 1))))), (hM, .inl (cJ, 6, (.inr (.inl (vp_updL (fun _ => 0) (0 : Int32).toNatClampNeg 1)))))]) hP hD [1, 5, 2, 3, 4] [0] rfl rfl (by decide) (by decide) hk1 hFc hP1 hD1
  generalize H1 = H at hP hS ⊢
  have hP : va_P (dC, dI) vwCl [(x0, .inr (10, [.ref xTape, .ref xReader, .ref xBag, .ref xBld, .ref xAng, .ref xSum, .ref xPik, .int 0, .ref xHan, .ref xIns, .ref xShr, .ref xSta, .ref xTur])), (xHan, .inr (3, [.int 0, .int 1, .int 1, .ref hH, .ref hR, .ref hT, .ref hM])), (xSum, .inr (8, [.ref sM, .ref sP, .ref sA, .int 0])), (hH, .inl (cI, 7, (.inl (upd fh (0 : Int32).toNatClampNeg 1)))), (hT, .inl (cJ, 7, (.inr (.inl (vp_updL ft (0 : Int32).toNatClampNeg 1))))), (hM, .inl (cJ, 6, (.inr (.inl (vp_updL (fun _ => 0) (0 : Int32).toNatClampNeg 1)))))] H := hP
  have hD : va_D A [(x0, .inr (10, [.ref xTape, .ref xReader, .ref xBag, .ref xBld, .ref xAng, .ref xSum, .ref xPik, .int 0, .ref xHan, .ref xIns, .ref xShr, .ref xSta, .ref xTur])), (xHan, .inr (3, [.int 0, .int 1, .int 1, .ref hH, .ref hR, .ref hT, .ref hM])), (xSum, .inr (8, [.ref sM, .ref sP, .ref sA, .int 0])), (hH, .inl (cI, 7, (.inl (upd fh (0 : Int32).toNatClampNeg 1)))), (hT, .inl (cJ, 7, (.inr (.inl (vp_updL ft (0 : Int32).toNatClampNeg 1))))), (hM, .inl (cJ, 6, (.inr (.inl (vp_updL (fun _ => 0) (0 : Int32).toNatClampNeg 1)))))] := hD
  refine lv_iinc (v := 2) (lv' := [(2, .int 2), (0, .ref x0), (1, .int 14)]) hx hb dX10_hangSolids_35 hl (k := 0) rfl (by decide) (by decide) rfl (fun ls hl => ?_)
  refine lv_goto (tgt := 9) hx hb dX10_hangSolids_38 (by decide) ?_
  refine lv_iload_n hx hb dX10_hangSolids_9 rfl (lv_at hl 0 rfl) ?_
  refine lv_iconst (v := 4) hx hb dX10_hangSolids_10 (by decide) ?_
  refine lv_icmp_ge (tgt := 41) hx hb dX10_hangSolids_11 (by decide) (fun c => absurd c (by decide)) (fun _ => ?_)
  refine lv_iload_n hx hb dX10_hangSolids_14 rfl (lv_at hl 2 rfl) ?_
  refine lv_iload_n hx hb dX10_hangSolids_15 rfl (lv_at hl 0 rfl) ?_
  refine lv_ishr hx hb dX10_hangSolids_16 ?_
  refine lv_topi (fun x_5 ex_5 => ?_)
  obtain rfl : x_5 = 3 := ex_5.trans (by first | rfl | decide)
  refine lv_iconst (v := 1) hx hb dX10_hangSolids_17 (by decide) ?_
  refine lv_iand hx hb dX10_hangSolids_18 ?_
  refine lv_topi (fun x_6 ex_6 => ?_)
  obtain rfl : x_6 = 1 := ex_6.trans (by first | rfl | decide)
  refine lv_iconst (v := 1) hx hb dX10_hangSolids_19 (by decide) ?_
  refine lv_icmp_ne (tgt := 35) hx hb dX10_hangSolids_20 (by decide) (fun c => absurd (by decide) c) (fun _ => ?_)
  refine lv_aload_n hx hb dX10_hangSolids_23 rfl (lv_at hl 1 rfl) ?_
  refine va_get (D := (dC, dI)) (ci := 10) (v := .ref xHan) (C := RX10) (T := TX10) (N := 13) hx hb hts hiX10 hown hK hP 0 rfl rfl 8 (by decide) (hts (.fieldLink RX10 61 "ScissorsTable" "hang" "LScissorsTable$Hang;") (by decide +kernel)) (fun _ h9 => h9) rfl dX10_hangSolids_24 ?_
  refine lv_aload_n hx hb dX10_hangSolids_27 rfl (lv_at hl 1 rfl) ?_
  refine va_get (D := (dC, dI)) (ci := 10) (v := .ref xSum) (C := RX10) (T := TX10) (N := 13) hx hb hts hiX10 hown hK hP 0 rfl rfl 5 (by decide) (hts (.fieldLink RX10 51 "ScissorsTable" "sums" "LScissorsTable$Sums;") (by decide +kernel)) (fun _ h9 => h9) rfl dX10_hangSolids_28 ?_
  refine lv_iload_n hx hb dX10_hangSolids_31 rfl (lv_at hl 0 rfl) ?_
  have hPc := hP.sub (ws' := [(xSum, .inr (8, [.ref sM, .ref sP, .ref sA, .int 0])), (xHan, .inr (3, [.int 0, .int 1, .int 1, .ref hH, .ref hR, .ref hT, .ref hM])), (hH, .inl (cI, 7, (.inl (upd fh (0 : Int32).toNatClampNeg 1)))), (hT, .inl (cJ, 7, (.inr (.inl (vp_updL ft (0 : Int32).toNatClampNeg 1)))))]) [2, 1, 3, 4] rfl
  have hDc := hD.sub (ws' := [(xSum, .inr (8, [.ref sM, .ref sP, .ref sA, .int 0])), (xHan, .inr (3, [.int 0, .int 1, .int 1, .ref hH, .ref hR, .ref hT, .ref hM])), (hH, .inl (cI, 7, (.inl (upd fh (0 : Int32).toNatClampNeg 1)))), (hT, .inl (cJ, 7, (.inr (.inl (vp_updL ft (0 : Int32).toNatClampNeg 1)))))]) [2, 1, 3, 4] (by decide) rfl
  have hFc := va_free (wc := [(xSum, .inr (8, [.ref sM, .ref sP, .ref sA, .int 0])), (xHan, .inr (3, [.int 0, .int 1, .int 1, .ref hH, .ref hR, .ref hT, .ref hM])), (hH, .inl (cI, 7, (.inl (upd fh (0 : Int32).toNatClampNeg 1)))), (hT, .inl (cJ, 7, (.inr (.inl (vp_updL ft (0 : Int32).toNatClampNeg 1)))))]) hD hS hA [2, 1, 3, 4] rfl
  refine va_callv (va_runV (As := [.ref xSum, .int 2]) (rest := []) ⟨hx, hb, hml, hown, hts⟩ (c_X3_next_t1 l dC dI cB cI cJ H.size xSum sM sP sA xHan hH hR hT hM 2 (upd fh (0 : Int32).toNatClampNeg 1) (vp_updL ft (0 : Int32).toNatClampNeg 1)) (cwV 2 hts gX10_hangSolids_X3_next rfl rfl rfl (by decide +kernel) ⟨Nat.le_of_ble_eq_true rfl, Nat.le_of_ble_eq_true rfl⟩) ⟨fun a U g mk q => by obtain ⟨q0, q1, qP, qK, qD⟩ := q; exact ⟨q0, q1, qP, va_K.moved (u := U) (U := U.calling g mk a) (Vm.Alike.refl U.vm) qK, qD⟩, va_recv hK hP (ci := 3) (q0 := 1) rfl rfl, fun U hU hW => ⟨rfl, by rw [hU], by rw [hU]; exact hPc, va_K.moved hW.alike hK, hDc.weaken (fun _ _ _ _ => trivial)⟩⟩ rfl rfl hl.1 rfl (lv_room (Nat.le_of_ble_eq_true rfl)) dX10_hangSolids_32 ⟨Nat.le_of_ble_eq_true rfl, Nat.le_of_ble_eq_true rfl⟩) hS (fun q _ h => hFc q h) hFc (fun u t H1 locs ht hvm hw hB hz1 hk1 hS => ?_)
  obtain ⟨hP1, hK1, hD1⟩ := hB
  rw [ht] at hP1
  obtain ⟨hP, hD⟩ := va_join (wr := [(x0, .inr (10, [.ref xTape, .ref xReader, .ref xBag, .ref xBld, .ref xAng, .ref xSum, .ref xPik, .int 0, .ref xHan, .ref xIns, .ref xShr, .ref xSta, .ref xTur])), (hM, .inl (cJ, 6, (.inr (.inl (vp_updL (fun _ => 0) (0 : Int32).toNatClampNeg 1)))))]) (w1 := [(xHan, .inr (3, [.int 0, .int 2, .int 1, .ref hH, .ref hR, .ref hT, .ref hM])), (xSum, .inr (8, [.ref sM, .ref sP, .ref sA, .int 0])), (hH, .inl (cI, 7, (.inl (upd (upd fh (0 : Int32).toNatClampNeg 1) (0 : Int32).toNatClampNeg 2)))), (hT, .inl (cJ, 7, (.inr (.inl (vp_updL (vp_updL ft (0 : Int32).toNatClampNeg 1) (0 : Int32).toNatClampNeg 1)))))]) hP hD [2, 1, 3, 4] [0, 5] rfl rfl (by decide) (by decide) hk1 hFc hP1 hD1
  generalize H1 = H at hP hS ⊢
  have hP : va_P (dC, dI) vwCl [(x0, .inr (10, [.ref xTape, .ref xReader, .ref xBag, .ref xBld, .ref xAng, .ref xSum, .ref xPik, .int 0, .ref xHan, .ref xIns, .ref xShr, .ref xSta, .ref xTur])), (hM, .inl (cJ, 6, (.inr (.inl (vp_updL (fun _ => 0) (0 : Int32).toNatClampNeg 1))))), (xHan, .inr (3, [.int 0, .int 2, .int 1, .ref hH, .ref hR, .ref hT, .ref hM])), (xSum, .inr (8, [.ref sM, .ref sP, .ref sA, .int 0])), (hH, .inl (cI, 7, (.inl (upd (upd fh (0 : Int32).toNatClampNeg 1) (0 : Int32).toNatClampNeg 2)))), (hT, .inl (cJ, 7, (.inr (.inl (vp_updL (vp_updL ft (0 : Int32).toNatClampNeg 1) (0 : Int32).toNatClampNeg 1)))))] H := hP
  have hD : va_D A [(x0, .inr (10, [.ref xTape, .ref xReader, .ref xBag, .ref xBld, .ref xAng, .ref xSum, .ref xPik, .int 0, .ref xHan, .ref xIns, .ref xShr, .ref xSta, .ref xTur])), (hM, .inl (cJ, 6, (.inr (.inl (vp_updL (fun _ => 0) (0 : Int32).toNatClampNeg 1))))), (xHan, .inr (3, [.int 0, .int 2, .int 1, .ref hH, .ref hR, .ref hT, .ref hM])), (xSum, .inr (8, [.ref sM, .ref sP, .ref sA, .int 0])), (hH, .inl (cI, 7, (.inl (upd (upd fh (0 : Int32).toNatClampNeg 1) (0 : Int32).toNatClampNeg 2)))), (hT, .inl (cJ, 7, (.inr (.inl (vp_updL (vp_updL ft (0 : Int32).toNatClampNeg 1) (0 : Int32).toNatClampNeg 1)))))] := hD
  refine lv_iinc (v := 3) (lv' := [(2, .int 3), (0, .ref x0), (1, .int 14)]) hx hb dX10_hangSolids_35 hl (k := 0) rfl (by decide) (by decide) rfl (fun ls hl => ?_)
  refine lv_goto (tgt := 9) hx hb dX10_hangSolids_38 (by decide) ?_
  refine lv_iload_n hx hb dX10_hangSolids_9 rfl (lv_at hl 0 rfl) ?_
  refine lv_iconst (v := 4) hx hb dX10_hangSolids_10 (by decide) ?_
  refine lv_icmp_ge (tgt := 41) hx hb dX10_hangSolids_11 (by decide) (fun c => absurd c (by decide)) (fun _ => ?_)
  refine lv_iload_n hx hb dX10_hangSolids_14 rfl (lv_at hl 2 rfl) ?_
  refine lv_iload_n hx hb dX10_hangSolids_15 rfl (lv_at hl 0 rfl) ?_
  refine lv_ishr hx hb dX10_hangSolids_16 ?_
  refine lv_topi (fun x_7 ex_7 => ?_)
  obtain rfl : x_7 = 1 := ex_7.trans (by first | rfl | decide)
  refine lv_iconst (v := 1) hx hb dX10_hangSolids_17 (by decide) ?_
  refine lv_iand hx hb dX10_hangSolids_18 ?_
  refine lv_topi (fun x_8 ex_8 => ?_)
  obtain rfl : x_8 = 1 := ex_8.trans (by first | rfl | decide)
  refine lv_iconst (v := 1) hx hb dX10_hangSolids_19 (by decide) ?_
  refine lv_icmp_ne (tgt := 35) hx hb dX10_hangSolids_20 (by decide) (fun c => absurd (by decide) c) (fun _ => ?_)
  refine lv_aload_n hx hb dX10_hangSolids_23 rfl (lv_at hl 1 rfl) ?_
  refine va_get (D := (dC, dI)) (ci := 10) (v := .ref xHan) (C := RX10) (T := TX10) (N := 13) hx hb hts hiX10 hown hK hP 0 rfl rfl 8 (by decide) (hts (.fieldLink RX10 61 "ScissorsTable" "hang" "LScissorsTable$Hang;") (by decide +kernel)) (fun _ h9 => h9) rfl dX10_hangSolids_24 ?_
  refine lv_aload_n hx hb dX10_hangSolids_27 rfl (lv_at hl 1 rfl) ?_
  refine va_get (D := (dC, dI)) (ci := 10) (v := .ref xSum) (C := RX10) (T := TX10) (N := 13) hx hb hts hiX10 hown hK hP 0 rfl rfl 5 (by decide) (hts (.fieldLink RX10 51 "ScissorsTable" "sums" "LScissorsTable$Sums;") (by decide +kernel)) (fun _ h9 => h9) rfl dX10_hangSolids_28 ?_
  refine lv_iload_n hx hb dX10_hangSolids_31 rfl (lv_at hl 0 rfl) ?_
  have hPc := hP.sub (ws' := [(xSum, .inr (8, [.ref sM, .ref sP, .ref sA, .int 0])), (xHan, .inr (3, [.int 0, .int 2, .int 1, .ref hH, .ref hR, .ref hT, .ref hM])), (hH, .inl (cI, 7, (.inl (upd (upd fh (0 : Int32).toNatClampNeg 1) (0 : Int32).toNatClampNeg 2)))), (hT, .inl (cJ, 7, (.inr (.inl (vp_updL (vp_updL ft (0 : Int32).toNatClampNeg 1) (0 : Int32).toNatClampNeg 1)))))]) [3, 2, 4, 5] rfl
  have hDc := hD.sub (ws' := [(xSum, .inr (8, [.ref sM, .ref sP, .ref sA, .int 0])), (xHan, .inr (3, [.int 0, .int 2, .int 1, .ref hH, .ref hR, .ref hT, .ref hM])), (hH, .inl (cI, 7, (.inl (upd (upd fh (0 : Int32).toNatClampNeg 1) (0 : Int32).toNatClampNeg 2)))), (hT, .inl (cJ, 7, (.inr (.inl (vp_updL (vp_updL ft (0 : Int32).toNatClampNeg 1) (0 : Int32).toNatClampNeg 1)))))]) [3, 2, 4, 5] (by decide) rfl
  have hFc := va_free (wc := [(xSum, .inr (8, [.ref sM, .ref sP, .ref sA, .int 0])), (xHan, .inr (3, [.int 0, .int 2, .int 1, .ref hH, .ref hR, .ref hT, .ref hM])), (hH, .inl (cI, 7, (.inl (upd (upd fh (0 : Int32).toNatClampNeg 1) (0 : Int32).toNatClampNeg 2)))), (hT, .inl (cJ, 7, (.inr (.inl (vp_updL (vp_updL ft (0 : Int32).toNatClampNeg 1) (0 : Int32).toNatClampNeg 1)))))]) hD hS hA [3, 2, 4, 5] rfl
  refine va_callv (va_runV (As := [.ref xSum, .int 3]) (rest := []) ⟨hx, hb, hml, hown, hts⟩ (c_X3_next_t2 l dC dI cB cI cJ H.size xSum sM sP sA xHan hH hR hT hM 3 (upd (upd fh (0 : Int32).toNatClampNeg 1) (0 : Int32).toNatClampNeg 2) (vp_updL (vp_updL ft (0 : Int32).toNatClampNeg 1) (0 : Int32).toNatClampNeg 1)) (cwV 2 hts gX10_hangSolids_X3_next rfl rfl rfl (by decide +kernel) ⟨Nat.le_of_ble_eq_true rfl, Nat.le_of_ble_eq_true rfl⟩) ⟨fun a U g mk q => by obtain ⟨q0, q1, qP, qK, qD⟩ := q; exact ⟨q0, q1, qP, va_K.moved (u := U) (U := U.calling g mk a) (Vm.Alike.refl U.vm) qK, qD⟩, va_recv hK hP (ci := 3) (q0 := 2) rfl rfl, fun U hU hW => ⟨rfl, by rw [hU], by rw [hU]; exact hPc, va_K.moved hW.alike hK, hDc.weaken (fun _ _ _ _ => trivial)⟩⟩ rfl rfl hl.1 rfl (lv_room (Nat.le_of_ble_eq_true rfl)) dX10_hangSolids_32 ⟨Nat.le_of_ble_eq_true rfl, Nat.le_of_ble_eq_true rfl⟩) hS (fun q _ h => hFc q h) hFc (fun u t H1 locs ht hvm hw hB hz1 hk1 hS => ?_)
  obtain ⟨hP1, hK1, hD1⟩ := hB
  rw [ht] at hP1
  obtain ⟨hP, hD⟩ := va_join (wr := [(x0, .inr (10, [.ref xTape, .ref xReader, .ref xBag, .ref xBld, .ref xAng, .ref xSum, .ref xPik, .int 0, .ref xHan, .ref xIns, .ref xShr, .ref xSta, .ref xTur])), (hM, .inl (cJ, 6, (.inr (.inl (vp_updL (fun _ => 0) (0 : Int32).toNatClampNeg 1)))))]) (w1 := [(xHan, .inr (3, [.int 0, .int 3, .int 1, .ref hH, .ref hR, .ref hT, .ref hM])), (xSum, .inr (8, [.ref sM, .ref sP, .ref sA, .int 0])), (hH, .inl (cI, 7, (.inl (upd (upd (upd fh (0 : Int32).toNatClampNeg 1) (0 : Int32).toNatClampNeg 2) (0 : Int32).toNatClampNeg 3)))), (hT, .inl (cJ, 7, (.inr (.inl (vp_updL (vp_updL (vp_updL ft (0 : Int32).toNatClampNeg 1) (0 : Int32).toNatClampNeg 1) (0 : Int32).toNatClampNeg 1)))))]) hP hD [3, 2, 4, 5] [0, 1] rfl rfl (by decide) (by decide) hk1 hFc hP1 hD1
  generalize H1 = H at hP hS ⊢
  have hP : va_P (dC, dI) vwCl [(x0, .inr (10, [.ref xTape, .ref xReader, .ref xBag, .ref xBld, .ref xAng, .ref xSum, .ref xPik, .int 0, .ref xHan, .ref xIns, .ref xShr, .ref xSta, .ref xTur])), (hM, .inl (cJ, 6, (.inr (.inl (vp_updL (fun _ => 0) (0 : Int32).toNatClampNeg 1))))), (xHan, .inr (3, [.int 0, .int 3, .int 1, .ref hH, .ref hR, .ref hT, .ref hM])), (xSum, .inr (8, [.ref sM, .ref sP, .ref sA, .int 0])), (hH, .inl (cI, 7, (.inl (upd (upd (upd fh (0 : Int32).toNatClampNeg 1) (0 : Int32).toNatClampNeg 2) (0 : Int32).toNatClampNeg 3)))), (hT, .inl (cJ, 7, (.inr (.inl (vp_updL (vp_updL (vp_updL ft (0 : Int32).toNatClampNeg 1) (0 : Int32).toNatClampNeg 1) (0 : Int32).toNatClampNeg 1)))))] H := hP
  have hD : va_D A [(x0, .inr (10, [.ref xTape, .ref xReader, .ref xBag, .ref xBld, .ref xAng, .ref xSum, .ref xPik, .int 0, .ref xHan, .ref xIns, .ref xShr, .ref xSta, .ref xTur])), (hM, .inl (cJ, 6, (.inr (.inl (vp_updL (fun _ => 0) (0 : Int32).toNatClampNeg 1))))), (xHan, .inr (3, [.int 0, .int 3, .int 1, .ref hH, .ref hR, .ref hT, .ref hM])), (xSum, .inr (8, [.ref sM, .ref sP, .ref sA, .int 0])), (hH, .inl (cI, 7, (.inl (upd (upd (upd fh (0 : Int32).toNatClampNeg 1) (0 : Int32).toNatClampNeg 2) (0 : Int32).toNatClampNeg 3)))), (hT, .inl (cJ, 7, (.inr (.inl (vp_updL (vp_updL (vp_updL ft (0 : Int32).toNatClampNeg 1) (0 : Int32).toNatClampNeg 1) (0 : Int32).toNatClampNeg 1)))))] := hD
  refine lv_iinc (v := 4) (lv' := [(2, .int 4), (0, .ref x0), (1, .int 14)]) hx hb dX10_hangSolids_35 hl (k := 0) rfl (by decide) (by decide) rfl (fun ls hl => ?_)
  refine lv_goto (tgt := 9) hx hb dX10_hangSolids_38 (by decide) ?_
  refine lv_iload_n hx hb dX10_hangSolids_9 rfl (lv_at hl 0 rfl) ?_
  refine lv_iconst (v := 4) hx hb dX10_hangSolids_10 (by decide) ?_
  refine lv_icmp_ge (tgt := 41) hx hb dX10_hangSolids_11 (by decide) (fun _ => ?_) (fun c => absurd (by decide) c)
  have hP9 := hP.sub (ws' := [(x0, .inr (10, [.ref xTape, .ref xReader, .ref xBag, .ref xBld, .ref xAng, .ref xSum, .ref xPik, .int 0, .ref xHan, .ref xIns, .ref xShr, .ref xSta, .ref xTur])), (xHan, .inr (3, [.int 0, .int 3, .int 1, .ref hH, .ref hR, .ref hT, .ref hM])), (xSum, .inr (8, [.ref sM, .ref sP, .ref sA, .int 0])), (hH, .inl (cI, 7, (.inl (upd (upd (upd fh (0 : Int32).toNatClampNeg 1) (0 : Int32).toNatClampNeg 2) (0 : Int32).toNatClampNeg 3)))), (hT, .inl (cJ, 7, (.inr (.inl (vp_updL (vp_updL (vp_updL ft (0 : Int32).toNatClampNeg 1) (0 : Int32).toNatClampNeg 1) (0 : Int32).toNatClampNeg 1))))), (hM, .inl (cJ, 6, (.inr (.inl (vp_updL (fun _ => 0) (0 : Int32).toNatClampNeg 1)))))]) [0, 2, 3, 4, 5, 1] rfl
  have hD9 := hD.sub (ws' := [(x0, .inr (10, [.ref xTape, .ref xReader, .ref xBag, .ref xBld, .ref xAng, .ref xSum, .ref xPik, .int 0, .ref xHan, .ref xIns, .ref xShr, .ref xSta, .ref xTur])), (xHan, .inr (3, [.int 0, .int 3, .int 1, .ref hH, .ref hR, .ref hT, .ref hM])), (xSum, .inr (8, [.ref sM, .ref sP, .ref sA, .int 0])), (hH, .inl (cI, 7, (.inl (upd (upd (upd fh (0 : Int32).toNatClampNeg 1) (0 : Int32).toNatClampNeg 2) (0 : Int32).toNatClampNeg 3)))), (hT, .inl (cJ, 7, (.inr (.inl (vp_updL (vp_updL (vp_updL ft (0 : Int32).toNatClampNeg 1) (0 : Int32).toNatClampNeg 1) (0 : Int32).toNatClampNeg 1))))), (hM, .inl (cJ, 6, (.inr (.inl (vp_updL (fun _ => 0) (0 : Int32).toNatClampNeg 1)))))]) [0, 2, 3, 4, 5, 1] (by decide) rfl
  refine W.widen (k := 0) (n := 0) (Nat.le_of_ble_eq_true rfl) (Nat.le_of_ble_eq_true rfl) ?_
  exact W.vret hx hb hr (fun t ht hW => ⟨⟨(), rfl, trivial, by rw [ht]; exact hP9, va_K.moved hW.alike hK, hD9⟩, hS.F ht⟩) hS.2.2 dX10_hangSolids_41
set_option maxHeartbeats 4000000 in
set_option maxRecDepth 100000 in
theorem c_X10_hangSolids_15 (l : Launch) (dC : Nat → ClassId) (dI : Nat → Nat → Nat) (cB cI cJ : ClassId) (sz : Nat) (x0 xTape xReader xBag xBld xAng xSum xPik xHan xIns xShr xSta xTur sM sP sA hH hR hT hM : Nat) (fh : Nat → Int32) (ft : Nat → Int64) : Met l yX10_hangSolids wsX10_hangSolids ({ frames := 5, cells := 0, slots := 0, locals := 118 }) (va_Pc [.ref x0, .int 15] (fun U => U.heap.size = sz ∧ va_P (dC, dI) vwCl [(x0, .inr (10, [.ref xTape, .ref xReader, .ref xBag, .ref xBld, .ref xAng, .ref xSum, .ref xPik, .int 0, .ref xHan, .ref xIns, .ref xShr, .ref xSta, .ref xTur])), (xSum, .inr (8, [.ref sM, .ref sP, .ref sA, .int 0])), (xHan, .inr (3, [.int 0, .int 0, .int 0, .ref hH, .ref hR, .ref hT, .ref hM])), (hH, .inl (cI, 7, (.inl fh))), (hT, .inl (cJ, 7, (.inr (.inl ft)))), (hM, .inl (cJ, 6, (.inr (.inl (fun _ => 0)))))] U.heap ∧ va_K (dC, dI) vwCl [(cB, .byte), (cI, .int), (cJ, .long)] U ∧ va_D (fun _ => True) [(x0, .inr (10, [.ref xTape, .ref xReader, .ref xBag, .ref xBld, .ref xAng, .ref xSum, .ref xPik, .int 0, .ref xHan, .ref xIns, .ref xShr, .ref xSta, .ref xTur])), (xSum, .inr (8, [.ref sM, .ref sP, .ref sA, .int 0])), (xHan, .inr (3, [.int 0, .int 0, .int 0, .ref hH, .ref hR, .ref hT, .ref hM])), (hH, .inl (cI, 7, (.inl fh))), (hT, .inl (cJ, 7, (.inr (.inl ft)))), (hM, .inl (cJ, 6, (.inr (.inl (fun _ => 0)))))] ∧ va_Nw (.methodLinkNest RX3 62 yX10_gcd "ScissorsTable") U)) (va_Qv (fun _ : Unit => True) (fun _ t => va_P (dC, dI) vwCl [(x0, .inr (10, [.ref xTape, .ref xReader, .ref xBag, .ref xBld, .ref xAng, .ref xSum, .ref xPik, .int 0, .ref xHan, .ref xIns, .ref xShr, .ref xSta, .ref xTur])), (xHan, .inr (3, [.int 0, .int 4, .int 1, .ref hH, .ref hR, .ref hT, .ref hM])), (xSum, .inr (8, [.ref sM, .ref sP, .ref sA, .int 0])), (hH, .inl (cI, 7, (.inl (upd (upd (upd (upd fh (0 : Int32).toNatClampNeg 0) (0 : Int32).toNatClampNeg 1) (0 : Int32).toNatClampNeg 2) (0 : Int32).toNatClampNeg 3)))), (hT, .inl (cJ, 7, (.inr (.inl (vp_updL (vp_updL (vp_updL (vp_updL ft (0 : Int32).toNatClampNeg 1) (0 : Int32).toNatClampNeg 1) (0 : Int32).toNatClampNeg 1) (0 : Int32).toNatClampNeg 1))))), (hM, .inl (cJ, 6, (.inr (.inl (vp_updL (fun _ => 0) (0 : Int32).toNatClampNeg 1)))))] t.heap ∧ va_K (dC, dI) vwCl [(cB, .byte), (cI, .int), (cJ, .long)] t ∧ va_D (va_A [(x0, .inr (10, [.ref xTape, .ref xReader, .ref xBag, .ref xBld, .ref xAng, .ref xSum, .ref xPik, .int 0, .ref xHan, .ref xIns, .ref xShr, .ref xSta, .ref xTur])), (xSum, .inr (8, [.ref sM, .ref sP, .ref sA, .int 0])), (xHan, .inr (3, [.int 0, .int 0, .int 0, .ref hH, .ref hR, .ref hT, .ref hM])), (hH, .inl (cI, 7, (.inl fh))), (hT, .inl (cJ, 7, (.inr (.inl ft)))), (hM, .inl (cJ, 6, (.inr (.inl (fun _ => 0)))))] sz) [(x0, .inr (10, [.ref xTape, .ref xReader, .ref xBag, .ref xBld, .ref xAng, .ref xSum, .ref xPik, .int 0, .ref xHan, .ref xIns, .ref xShr, .ref xSta, .ref xTur])), (xHan, .inr (3, [.int 0, .int 4, .int 1, .ref hH, .ref hR, .ref hT, .ref hM])), (xSum, .inr (8, [.ref sM, .ref sP, .ref sA, .int 0])), (hH, .inl (cI, 7, (.inl (upd (upd (upd (upd fh (0 : Int32).toNatClampNeg 0) (0 : Int32).toNatClampNeg 1) (0 : Int32).toNatClampNeg 2) (0 : Int32).toNatClampNeg 3)))), (hT, .inl (cJ, 7, (.inr (.inl (vp_updL (vp_updL (vp_updL (vp_updL ft (0 : Int32).toNatClampNeg 1) (0 : Int32).toNatClampNeg 1) (0 : Int32).toNatClampNeg 1) (0 : Int32).toNatClampNeg 1))))), (hM, .inl (cJ, 6, (.inr (.inl (vp_updL (fun _ => 0) (0 : Int32).toNatClampNeg 1)))))]) (va_A [(x0, .inr (10, [.ref xTape, .ref xReader, .ref xBag, .ref xBld, .ref xAng, .ref xSum, .ref xPik, .int 0, .ref xHan, .ref xIns, .ref xShr, .ref xSta, .ref xTur])), (xSum, .inr (8, [.ref sM, .ref sP, .ref sA, .int 0])), (xHan, .inr (3, [.int 0, .int 0, .int 0, .ref hH, .ref hR, .ref hT, .ref hM])), (hH, .inl (cI, 7, (.inl fh))), (hT, .inl (cJ, 7, (.inr (.inl ft)))), (hM, .inl (cJ, 6, (.inr (.inl (fun _ => 0)))))] sz)) 0 0 (va_A [(x0, .inr (10, [.ref xTape, .ref xReader, .ref xBag, .ref xBld, .ref xAng, .ref xSum, .ref xPik, .int 0, .ref xHan, .ref xIns, .ref xShr, .ref xSta, .ref xTur])), (xSum, .inr (8, [.ref sM, .ref sP, .ref sA, .int 0])), (xHan, .inr (3, [.int 0, .int 0, .int 0, .ref hH, .ref hR, .ref hT, .ref hM])), (hH, .inl (cI, 7, (.inl fh))), (hT, .inl (cJ, 7, (.inr (.inl ft)))), (hM, .inl (cJ, 6, (.inr (.inl (fun _ => 0)))))] sz) := by
  refine Met.ofW (cc := cX10_hangSolids) (maxL := 3) (ret := none) (by decide) rfl ?_
  intro p e s m args below meth c s₁ B hml hv
  obtain ⟨rfl, hsz, hP, hK, hD0, hN0⟩ := hv
  have hx := B.exec
  have hb := B.bytes
  have hr := B.returns
  have hts := atoms_spec (ws := wsX10_hangSolids) B.pre
  have hown : s.vm.findClass RX10 = some m.cls := findClass_of_methodNamed B.named
  have hlocks := B.notSynchronized
  have hiX10 : ∀ w ∈ u_ws RX10 TX10 13, w ∈ wsX10_hangSolids := by decide +kernel
  subst hsz
  have hD := hD0.self (sz := s.heap.size)
  generalize hAe : va_A [(x0, .inr (10, [.ref xTape, .ref xReader, .ref xBag, .ref xBld, .ref xAng, .ref xSum, .ref xPik, .int 0, .ref xHan, .ref xIns, .ref xShr, .ref xSta, .ref xTur])), (xSum, .inr (8, [.ref sM, .ref sP, .ref sA, .int 0])), (xHan, .inr (3, [.int 0, .int 0, .int 0, .ref hH, .ref hR, .ref hT, .ref hM])), (hH, .inl (cI, 7, (.inl fh))), (hT, .inl (cJ, 7, (.inr (.inl ft)))), (hM, .inl (cJ, 6, (.inr (.inl (fun _ => 0)))))] s.heap.size = A at hD ⊢
  have hA : ∀ q : Nat, s.heap.size ≤ q → A q := fun q h => by rw [← hAe]; exact Or.inr h
  have hS : va_S A s.heap s.heap [] := va_S.rf
  have hP : va_P (dC, dI) vwCl [(x0, .inr (10, [.ref xTape, .ref xReader, .ref xBag, .ref xBld, .ref xAng, .ref xSum, .ref xPik, .int 0, .ref xHan, .ref xIns, .ref xShr, .ref xSta, .ref xTur])), (xSum, .inr (8, [.ref sM, .ref sP, .ref sA, .int 0])), (xHan, .inr (3, [.int 0, .int 0, .int 0, .ref hH, .ref hR, .ref hT, .ref hM])), (hH, .inl (cI, 7, (.inl fh))), (hT, .inl (cJ, 7, (.inr (.inl ft)))), (hM, .inl (cJ, 6, (.inr (.inl (fun _ => 0)))))] s.heap := hP
  have hl := lv_entry ([.ref x0, .int 15]) (n := 3) (Nat.le_of_ble_eq_true rfl)
  rw [lg_entry_eq]
  generalize (lg_sl ([.ref x0, .int 15]) ++ List.replicate (3 - (lg_sl ([.ref x0, .int 15])).length) Slot.unset).toArray = ls at hl ⊢
  have hl : lv_has ls 3 [(0, .ref x0), (1, .int 15)] := hl
  refine lv_aload_n hx hb dX10_hangSolids_0 rfl (lv_at hl 0 rfl) ?_
  refine va_get (D := (dC, dI)) (ci := 10) (v := .ref xHan) (C := RX10) (T := TX10) (N := 13) hx hb hts hiX10 hown hK hP 0 rfl rfl 8 (by decide) (hts (.fieldLink RX10 61 "ScissorsTable" "hang" "LScissorsTable$Hang;") (by decide +kernel)) (fun _ h9 => h9) rfl dX10_hangSolids_1 ?_
  have hPc := hP.sub (ws' := [(xHan, .inr (3, [.int 0, .int 0, .int 0, .ref hH, .ref hR, .ref hT, .ref hM]))]) [2] rfl
  have hDc := hD.sub (ws' := [(xHan, .inr (3, [.int 0, .int 0, .int 0, .ref hH, .ref hR, .ref hT, .ref hM]))]) [2] (by decide) rfl
  have hFc := va_free (wc := [(xHan, .inr (3, [.int 0, .int 0, .int 0, .ref hH, .ref hR, .ref hT, .ref hM]))]) hD hS hA [2] rfl
  refine va_callv (va_runV (As := []) (rest := []) ⟨hx, hb, hml, hown, hts⟩ (c_X3_begin l dC dI cB cI cJ s.heap.size xHan hH hR hT hM) (cwV 0 hts gX10_hangSolids_X3_begin rfl rfl rfl (by decide +kernel) ⟨Nat.le_of_ble_eq_true rfl, Nat.le_of_ble_eq_true rfl⟩) ⟨fun a U g mk q => by obtain ⟨q0, q1, qP, qK, qD⟩ := q; exact ⟨q0, q1, qP, va_K.moved (u := U) (U := U.calling g mk a) (Vm.Alike.refl U.vm) qK, qD⟩, va_recv hK hP (ci := 3) (q0 := 2) rfl rfl, fun U hU hW => ⟨rfl, by rw [hU], by rw [hU]; exact hPc, va_K.moved hW.alike hK, hDc.weaken (fun _ _ _ _ => trivial)⟩⟩ rfl rfl hl.1 rfl (lv_room (Nat.le_of_ble_eq_true rfl)) dX10_hangSolids_4 ⟨Nat.le_of_ble_eq_true rfl, Nat.le_of_ble_eq_true rfl⟩) hS (fun q _ h => hFc q h) hFc (fun u t H1 locs ht hvm hw hB hz1 hk1 hS => ?_)
  obtain ⟨hP1, hK1, hD1⟩ := hB
  rw [ht] at hP1
  obtain ⟨hP, hD⟩ := va_join (wr := [(x0, .inr (10, [.ref xTape, .ref xReader, .ref xBag, .ref xBld, .ref xAng, .ref xSum, .ref xPik, .int 0, .ref xHan, .ref xIns, .ref xShr, .ref xSta, .ref xTur])), (xSum, .inr (8, [.ref sM, .ref sP, .ref sA, .int 0])), (hH, .inl (cI, 7, (.inl fh))), (hT, .inl (cJ, 7, (.inr (.inl ft)))), (hM, .inl (cJ, 6, (.inr (.inl (fun _ => 0)))))]) (w1 := [(xHan, .inr (3, [.int 0, .int 0, .int 0, .ref hH, .ref hR, .ref hT, .ref hM]))]) hP hD [2] [0, 1, 3, 4, 5] rfl rfl (by decide) (by decide) hk1 hFc hP1 hD1
  generalize H1 = H at hP hS ⊢
  have hP : va_P (dC, dI) vwCl [(x0, .inr (10, [.ref xTape, .ref xReader, .ref xBag, .ref xBld, .ref xAng, .ref xSum, .ref xPik, .int 0, .ref xHan, .ref xIns, .ref xShr, .ref xSta, .ref xTur])), (xSum, .inr (8, [.ref sM, .ref sP, .ref sA, .int 0])), (hH, .inl (cI, 7, (.inl fh))), (hT, .inl (cJ, 7, (.inr (.inl ft)))), (hM, .inl (cJ, 6, (.inr (.inl (fun _ => 0))))), (xHan, .inr (3, [.int 0, .int 0, .int 0, .ref hH, .ref hR, .ref hT, .ref hM]))] H := hP
  have hD : va_D A [(x0, .inr (10, [.ref xTape, .ref xReader, .ref xBag, .ref xBld, .ref xAng, .ref xSum, .ref xPik, .int 0, .ref xHan, .ref xIns, .ref xShr, .ref xSta, .ref xTur])), (xSum, .inr (8, [.ref sM, .ref sP, .ref sA, .int 0])), (hH, .inl (cI, 7, (.inl fh))), (hT, .inl (cJ, 7, (.inr (.inl ft)))), (hM, .inl (cJ, 6, (.inr (.inl (fun _ => 0))))), (xHan, .inr (3, [.int 0, .int 0, .int 0, .ref hH, .ref hR, .ref hT, .ref hM]))] := hD
  refine lv_iconst (v := 0) hx hb dX10_hangSolids_7 (by decide) ?_
  refine lv_istore_n (lv' := [(2, .int 0), (0, .ref x0), (1, .int 15)]) hx hb dX10_hangSolids_8 rfl hl (by decide) rfl (fun ls hl => ?_)
  refine lv_iload_n hx hb dX10_hangSolids_9 rfl (lv_at hl 0 rfl) ?_
  refine lv_iconst (v := 4) hx hb dX10_hangSolids_10 (by decide) ?_
  refine lv_icmp_ge (tgt := 41) hx hb dX10_hangSolids_11 (by decide) (fun c => absurd c (by decide)) (fun _ => ?_)
  refine lv_iload_n hx hb dX10_hangSolids_14 rfl (lv_at hl 2 rfl) ?_
  refine lv_iload_n hx hb dX10_hangSolids_15 rfl (lv_at hl 0 rfl) ?_
  refine lv_ishr hx hb dX10_hangSolids_16 ?_
  refine lv_topi (fun x_1 ex_1 => ?_)
  obtain rfl : x_1 = 15 := ex_1.trans (by first | rfl | decide)
  refine lv_iconst (v := 1) hx hb dX10_hangSolids_17 (by decide) ?_
  refine lv_iand hx hb dX10_hangSolids_18 ?_
  refine lv_topi (fun x_2 ex_2 => ?_)
  obtain rfl : x_2 = 1 := ex_2.trans (by first | rfl | decide)
  refine lv_iconst (v := 1) hx hb dX10_hangSolids_19 (by decide) ?_
  refine lv_icmp_ne (tgt := 35) hx hb dX10_hangSolids_20 (by decide) (fun c => absurd (by decide) c) (fun _ => ?_)
  refine lv_aload_n hx hb dX10_hangSolids_23 rfl (lv_at hl 1 rfl) ?_
  refine va_get (D := (dC, dI)) (ci := 10) (v := .ref xHan) (C := RX10) (T := TX10) (N := 13) hx hb hts hiX10 hown hK hP 0 rfl rfl 8 (by decide) (hts (.fieldLink RX10 61 "ScissorsTable" "hang" "LScissorsTable$Hang;") (by decide +kernel)) (fun _ h9 => h9) rfl dX10_hangSolids_24 ?_
  refine lv_aload_n hx hb dX10_hangSolids_27 rfl (lv_at hl 1 rfl) ?_
  refine va_get (D := (dC, dI)) (ci := 10) (v := .ref xSum) (C := RX10) (T := TX10) (N := 13) hx hb hts hiX10 hown hK hP 0 rfl rfl 5 (by decide) (hts (.fieldLink RX10 51 "ScissorsTable" "sums" "LScissorsTable$Sums;") (by decide +kernel)) (fun _ h9 => h9) rfl dX10_hangSolids_28 ?_
  refine lv_iload_n hx hb dX10_hangSolids_31 rfl (lv_at hl 0 rfl) ?_
  have hPc := hP.sub (ws' := [(xSum, .inr (8, [.ref sM, .ref sP, .ref sA, .int 0])), (xHan, .inr (3, [.int 0, .int 0, .int 0, .ref hH, .ref hR, .ref hT, .ref hM])), (hH, .inl (cI, 7, (.inl fh))), (hT, .inl (cJ, 7, (.inr (.inl ft)))), (hM, .inl (cJ, 6, (.inr (.inl (fun _ => 0)))))]) [1, 5, 2, 3, 4] rfl
  have hDc := hD.sub (ws' := [(xSum, .inr (8, [.ref sM, .ref sP, .ref sA, .int 0])), (xHan, .inr (3, [.int 0, .int 0, .int 0, .ref hH, .ref hR, .ref hT, .ref hM])), (hH, .inl (cI, 7, (.inl fh))), (hT, .inl (cJ, 7, (.inr (.inl ft)))), (hM, .inl (cJ, 6, (.inr (.inl (fun _ => 0)))))]) [1, 5, 2, 3, 4] (by decide) rfl
  have hFc := va_free (wc := [(xSum, .inr (8, [.ref sM, .ref sP, .ref sA, .int 0])), (xHan, .inr (3, [.int 0, .int 0, .int 0, .ref hH, .ref hR, .ref hT, .ref hM])), (hH, .inl (cI, 7, (.inl fh))), (hT, .inl (cJ, 7, (.inr (.inl ft)))), (hM, .inl (cJ, 6, (.inr (.inl (fun _ => 0)))))]) hD hS hA [1, 5, 2, 3, 4] rfl
  refine va_callv (va_runV (As := [.ref xSum, .int 0]) (rest := []) ⟨hx, hb, hml, hown, hts⟩ (c_X3_next_t0 l dC dI cB cI cJ H.size xSum sM sP sA xHan hH hR hT hM 0 fh ft) (cwV 2 hts gX10_hangSolids_X3_next rfl rfl rfl (by decide +kernel) ⟨Nat.le_of_ble_eq_true rfl, Nat.le_of_ble_eq_true rfl⟩) ⟨fun a U g mk q => by obtain ⟨q0, q1, qP, qK, qD, qN0⟩ := q; exact ⟨q0, q1, qP, va_K.moved (u := U) (U := U.calling g mk a) (Vm.Alike.refl U.vm) qK, qD, va_Nw.same rfl rfl qN0⟩, va_recv hK hP (ci := 3) (q0 := 5) rfl rfl, fun U hU hW => ⟨rfl, by rw [hU], by rw [hU]; exact hPc, va_K.moved hW.alike hK, hDc.weaken (fun _ _ _ _ => trivial), va_Nw.warmM hW hN0⟩⟩ rfl rfl hl.1 rfl (lv_room (Nat.le_of_ble_eq_true rfl)) dX10_hangSolids_32 ⟨Nat.le_of_ble_eq_true rfl, Nat.le_of_ble_eq_true rfl⟩) hS (fun q _ h => hFc q h) hFc (fun u t H1 locs ht hvm hw hB hz1 hk1 hS => ?_)
  obtain ⟨hP1, hK1, hD1⟩ := hB
  rw [ht] at hP1
  obtain ⟨hP, hD⟩ := va_join (wr := [(x0, .inr (10, [.ref xTape, .ref xReader, .ref xBag, .ref xBld, .ref xAng, .ref xSum, .ref xPik, .int 0, .ref xHan, .ref xIns, .ref xShr, .ref xSta, .ref xTur]))]) (w1 := [(xHan, .inr (3, [.int 0, .int 1, .int 1, .ref hH, .ref hR, .ref hT, .ref hM])), (xSum, .inr (8, [.ref sM, .ref sP, .ref sA, .int 0])), (hH, .inl (cI, 7, (.inl (upd fh (0 : Int32).toNatClampNeg 0)))), (hT, .inl (cJ, 7, (.inr (.inl (vp_updL ft (0 : Int32).toNatClampNeg 1))))), (hM, .inl (cJ, 6, (.inr (.inl (vp_updL (fun _ => 0) (0 : Int32).toNatClampNeg 1)))))]) hP hD [1, 5, 2, 3, 4] [0] rfl rfl (by decide) (by decide) hk1 hFc hP1 hD1
  generalize H1 = H at hP hS ⊢
  have hP : va_P (dC, dI) vwCl [(x0, .inr (10, [.ref xTape, .ref xReader, .ref xBag, .ref xBld, .ref xAng, .ref xSum, .ref xPik, .int 0, .ref xHan, .ref xIns, .ref xShr, .ref xSta, .ref xTur])), (xHan, .inr (3, [.int 0, .int 1, .int 1, .ref hH, .ref hR, .ref hT, .ref hM])), (xSum, .inr (8, [.ref sM, .ref sP, .ref sA, .int 0])), (hH, .inl (cI, 7, (.inl (upd fh (0 : Int32).toNatClampNeg 0)))), (hT, .inl (cJ, 7, (.inr (.inl (vp_updL ft (0 : Int32).toNatClampNeg 1))))), (hM, .inl (cJ, 6, (.inr (.inl (vp_updL (fun _ => 0) (0 : Int32).toNatClampNeg 1)))))] H := hP
  have hD : va_D A [(x0, .inr (10, [.ref xTape, .ref xReader, .ref xBag, .ref xBld, .ref xAng, .ref xSum, .ref xPik, .int 0, .ref xHan, .ref xIns, .ref xShr, .ref xSta, .ref xTur])), (xHan, .inr (3, [.int 0, .int 1, .int 1, .ref hH, .ref hR, .ref hT, .ref hM])), (xSum, .inr (8, [.ref sM, .ref sP, .ref sA, .int 0])), (hH, .inl (cI, 7, (.inl (upd fh (0 : Int32).toNatClampNeg 0)))), (hT, .inl (cJ, 7, (.inr (.inl (vp_updL ft (0 : Int32).toNatClampNeg 1))))), (hM, .inl (cJ, 6, (.inr (.inl (vp_updL (fun _ => 0) (0 : Int32).toNatClampNeg 1)))))] := hD
  refine lv_iinc (v := 1) (lv' := [(2, .int 1), (0, .ref x0), (1, .int 15)]) hx hb dX10_hangSolids_35 hl (k := 0) rfl (by decide) (by decide) rfl (fun ls hl => ?_)
  refine lv_goto (tgt := 9) hx hb dX10_hangSolids_38 (by decide) ?_
  refine lv_iload_n hx hb dX10_hangSolids_9 rfl (lv_at hl 0 rfl) ?_
  refine lv_iconst (v := 4) hx hb dX10_hangSolids_10 (by decide) ?_
  refine lv_icmp_ge (tgt := 41) hx hb dX10_hangSolids_11 (by decide) (fun c => absurd c (by decide)) (fun _ => ?_)
  refine lv_iload_n hx hb dX10_hangSolids_14 rfl (lv_at hl 2 rfl) ?_
  refine lv_iload_n hx hb dX10_hangSolids_15 rfl (lv_at hl 0 rfl) ?_
  refine lv_ishr hx hb dX10_hangSolids_16 ?_
  refine lv_topi (fun x_3 ex_3 => ?_)
  obtain rfl : x_3 = 7 := ex_3.trans (by first | rfl | decide)
  refine lv_iconst (v := 1) hx hb dX10_hangSolids_17 (by decide) ?_
  refine lv_iand hx hb dX10_hangSolids_18 ?_
  refine lv_topi (fun x_4 ex_4 => ?_)
  obtain rfl : x_4 = 1 := ex_4.trans (by first | rfl | decide)
  refine lv_iconst (v := 1) hx hb dX10_hangSolids_19 (by decide) ?_
  refine lv_icmp_ne (tgt := 35) hx hb dX10_hangSolids_20 (by decide) (fun c => absurd (by decide) c) (fun _ => ?_)
  refine lv_aload_n hx hb dX10_hangSolids_23 rfl (lv_at hl 1 rfl) ?_
  refine va_get (D := (dC, dI)) (ci := 10) (v := .ref xHan) (C := RX10) (T := TX10) (N := 13) hx hb hts hiX10 hown hK hP 0 rfl rfl 8 (by decide) (hts (.fieldLink RX10 61 "ScissorsTable" "hang" "LScissorsTable$Hang;") (by decide +kernel)) (fun _ h9 => h9) rfl dX10_hangSolids_24 ?_
  refine lv_aload_n hx hb dX10_hangSolids_27 rfl (lv_at hl 1 rfl) ?_
  refine va_get (D := (dC, dI)) (ci := 10) (v := .ref xSum) (C := RX10) (T := TX10) (N := 13) hx hb hts hiX10 hown hK hP 0 rfl rfl 5 (by decide) (hts (.fieldLink RX10 51 "ScissorsTable" "sums" "LScissorsTable$Sums;") (by decide +kernel)) (fun _ h9 => h9) rfl dX10_hangSolids_28 ?_
  refine lv_iload_n hx hb dX10_hangSolids_31 rfl (lv_at hl 0 rfl) ?_
  have hPc := hP.sub (ws' := [(xSum, .inr (8, [.ref sM, .ref sP, .ref sA, .int 0])), (xHan, .inr (3, [.int 0, .int 1, .int 1, .ref hH, .ref hR, .ref hT, .ref hM])), (hH, .inl (cI, 7, (.inl (upd fh (0 : Int32).toNatClampNeg 0)))), (hT, .inl (cJ, 7, (.inr (.inl (vp_updL ft (0 : Int32).toNatClampNeg 1)))))]) [2, 1, 3, 4] rfl
  have hDc := hD.sub (ws' := [(xSum, .inr (8, [.ref sM, .ref sP, .ref sA, .int 0])), (xHan, .inr (3, [.int 0, .int 1, .int 1, .ref hH, .ref hR, .ref hT, .ref hM])), (hH, .inl (cI, 7, (.inl (upd fh (0 : Int32).toNatClampNeg 0)))), (hT, .inl (cJ, 7, (.inr (.inl (vp_updL ft (0 : Int32).toNatClampNeg 1)))))]) [2, 1, 3, 4] (by decide) rfl
  have hFc := va_free (wc := [(xSum, .inr (8, [.ref sM, .ref sP, .ref sA, .int 0])), (xHan, .inr (3, [.int 0, .int 1, .int 1, .ref hH, .ref hR, .ref hT, .ref hM])), (hH, .inl (cI, 7, (.inl (upd fh (0 : Int32).toNatClampNeg 0)))), (hT, .inl (cJ, 7, (.inr (.inl (vp_updL ft (0 : Int32).toNatClampNeg 1)))))]) hD hS hA [2, 1, 3, 4] rfl
  refine va_callv (va_runV (As := [.ref xSum, .int 1]) (rest := []) ⟨hx, hb, hml, hown, hts⟩ (c_X3_next_t1 l dC dI cB cI cJ H.size xSum sM sP sA xHan hH hR hT hM 1 (upd fh (0 : Int32).toNatClampNeg 0) (vp_updL ft (0 : Int32).toNatClampNeg 1)) (cwV 2 hts gX10_hangSolids_X3_next rfl rfl rfl (by decide +kernel) ⟨Nat.le_of_ble_eq_true rfl, Nat.le_of_ble_eq_true rfl⟩) ⟨fun a U g mk q => by obtain ⟨q0, q1, qP, qK, qD⟩ := q; exact ⟨q0, q1, qP, va_K.moved (u := U) (U := U.calling g mk a) (Vm.Alike.refl U.vm) qK, qD⟩, va_recv hK hP (ci := 3) (q0 := 1) rfl rfl, fun U hU hW => ⟨rfl, by rw [hU], by rw [hU]; exact hPc, va_K.moved hW.alike hK, hDc.weaken (fun _ _ _ _ => trivial)⟩⟩ rfl rfl hl.1 rfl (lv_room (Nat.le_of_ble_eq_true rfl)) dX10_hangSolids_32 ⟨Nat.le_of_ble_eq_true rfl, Nat.le_of_ble_eq_true rfl⟩) hS (fun q _ h => hFc q h) hFc (fun u t H1 locs ht hvm hw hB hz1 hk1 hS => ?_)
  obtain ⟨hP1, hK1, hD1⟩ := hB
  rw [ht] at hP1
  obtain ⟨hP, hD⟩ := va_join (wr := [(x0, .inr (10, [.ref xTape, .ref xReader, .ref xBag, .ref xBld, .ref xAng, .ref xSum, .ref xPik, .int 0, .ref xHan, .ref xIns, .ref xShr, .ref xSta, .ref xTur])), (hM, .inl (cJ, 6, (.inr (.inl (vp_updL (fun _ => 0) (0 : Int32).toNatClampNeg 1)))))]) (w1 := [(xHan, .inr (3, [.int 0, .int 2, .int 1, .ref hH, .ref hR, .ref hT, .ref hM])), (xSum, .inr (8, [.ref sM, .ref sP, .ref sA, .int 0])), (hH, .inl (cI, 7, (.inl (upd (upd fh (0 : Int32).toNatClampNeg 0) (0 : Int32).toNatClampNeg 1)))), (hT, .inl (cJ, 7, (.inr (.inl (vp_updL (vp_updL ft (0 : Int32).toNatClampNeg 1) (0 : Int32).toNatClampNeg 1)))))]) hP hD [2, 1, 3, 4] [0, 5] rfl rfl (by decide) (by decide) hk1 hFc hP1 hD1
  generalize H1 = H at hP hS ⊢
  have hP : va_P (dC, dI) vwCl [(x0, .inr (10, [.ref xTape, .ref xReader, .ref xBag, .ref xBld, .ref xAng, .ref xSum, .ref xPik, .int 0, .ref xHan, .ref xIns, .ref xShr, .ref xSta, .ref xTur])), (hM, .inl (cJ, 6, (.inr (.inl (vp_updL (fun _ => 0) (0 : Int32).toNatClampNeg 1))))), (xHan, .inr (3, [.int 0, .int 2, .int 1, .ref hH, .ref hR, .ref hT, .ref hM])), (xSum, .inr (8, [.ref sM, .ref sP, .ref sA, .int 0])), (hH, .inl (cI, 7, (.inl (upd (upd fh (0 : Int32).toNatClampNeg 0) (0 : Int32).toNatClampNeg 1)))), (hT, .inl (cJ, 7, (.inr (.inl (vp_updL (vp_updL ft (0 : Int32).toNatClampNeg 1) (0 : Int32).toNatClampNeg 1)))))] H := hP
  have hD : va_D A [(x0, .inr (10, [.ref xTape, .ref xReader, .ref xBag, .ref xBld, .ref xAng, .ref xSum, .ref xPik, .int 0, .ref xHan, .ref xIns, .ref xShr, .ref xSta, .ref xTur])), (hM, .inl (cJ, 6, (.inr (.inl (vp_updL (fun _ => 0) (0 : Int32).toNatClampNeg 1))))), (xHan, .inr (3, [.int 0, .int 2, .int 1, .ref hH, .ref hR, .ref hT, .ref hM])), (xSum, .inr (8, [.ref sM, .ref sP, .ref sA, .int 0])), (hH, .inl (cI, 7, (.inl (upd (upd fh (0 : Int32).toNatClampNeg 0) (0 : Int32).toNatClampNeg 1)))), (hT, .inl (cJ, 7, (.inr (.inl (vp_updL (vp_updL ft (0 : Int32).toNatClampNeg 1) (0 : Int32).toNatClampNeg 1)))))] := hD
  refine lv_iinc (v := 2) (lv' := [(2, .int 2), (0, .ref x0), (1, .int 15)]) hx hb dX10_hangSolids_35 hl (k := 0) rfl (by decide) (by decide) rfl (fun ls hl => ?_)
  refine lv_goto (tgt := 9) hx hb dX10_hangSolids_38 (by decide) ?_
  refine lv_iload_n hx hb dX10_hangSolids_9 rfl (lv_at hl 0 rfl) ?_
  refine lv_iconst (v := 4) hx hb dX10_hangSolids_10 (by decide) ?_
  refine lv_icmp_ge (tgt := 41) hx hb dX10_hangSolids_11 (by decide) (fun c => absurd c (by decide)) (fun _ => ?_)
  refine lv_iload_n hx hb dX10_hangSolids_14 rfl (lv_at hl 2 rfl) ?_
  refine lv_iload_n hx hb dX10_hangSolids_15 rfl (lv_at hl 0 rfl) ?_
  refine lv_ishr hx hb dX10_hangSolids_16 ?_
  refine lv_topi (fun x_5 ex_5 => ?_)
  obtain rfl : x_5 = 3 := ex_5.trans (by first | rfl | decide)
  refine lv_iconst (v := 1) hx hb dX10_hangSolids_17 (by decide) ?_
  refine lv_iand hx hb dX10_hangSolids_18 ?_
  refine lv_topi (fun x_6 ex_6 => ?_)
  obtain rfl : x_6 = 1 := ex_6.trans (by first | rfl | decide)
  refine lv_iconst (v := 1) hx hb dX10_hangSolids_19 (by decide) ?_
  refine lv_icmp_ne (tgt := 35) hx hb dX10_hangSolids_20 (by decide) (fun c => absurd (by decide) c) (fun _ => ?_)
  refine lv_aload_n hx hb dX10_hangSolids_23 rfl (lv_at hl 1 rfl) ?_
  refine va_get (D := (dC, dI)) (ci := 10) (v := .ref xHan) (C := RX10) (T := TX10) (N := 13) hx hb hts hiX10 hown hK hP 0 rfl rfl 8 (by decide) (hts (.fieldLink RX10 61 "ScissorsTable" "hang" "LScissorsTable$Hang;") (by decide +kernel)) (fun _ h9 => h9) rfl dX10_hangSolids_24 ?_
  refine lv_aload_n hx hb dX10_hangSolids_27 rfl (lv_at hl 1 rfl) ?_
  refine va_get (D := (dC, dI)) (ci := 10) (v := .ref xSum) (C := RX10) (T := TX10) (N := 13) hx hb hts hiX10 hown hK hP 0 rfl rfl 5 (by decide) (hts (.fieldLink RX10 51 "ScissorsTable" "sums" "LScissorsTable$Sums;") (by decide +kernel)) (fun _ h9 => h9) rfl dX10_hangSolids_28 ?_
  refine lv_iload_n hx hb dX10_hangSolids_31 rfl (lv_at hl 0 rfl) ?_
  have hPc := hP.sub (ws' := [(xSum, .inr (8, [.ref sM, .ref sP, .ref sA, .int 0])), (xHan, .inr (3, [.int 0, .int 2, .int 1, .ref hH, .ref hR, .ref hT, .ref hM])), (hH, .inl (cI, 7, (.inl (upd (upd fh (0 : Int32).toNatClampNeg 0) (0 : Int32).toNatClampNeg 1)))), (hT, .inl (cJ, 7, (.inr (.inl (vp_updL (vp_updL ft (0 : Int32).toNatClampNeg 1) (0 : Int32).toNatClampNeg 1)))))]) [3, 2, 4, 5] rfl
  have hDc := hD.sub (ws' := [(xSum, .inr (8, [.ref sM, .ref sP, .ref sA, .int 0])), (xHan, .inr (3, [.int 0, .int 2, .int 1, .ref hH, .ref hR, .ref hT, .ref hM])), (hH, .inl (cI, 7, (.inl (upd (upd fh (0 : Int32).toNatClampNeg 0) (0 : Int32).toNatClampNeg 1)))), (hT, .inl (cJ, 7, (.inr (.inl (vp_updL (vp_updL ft (0 : Int32).toNatClampNeg 1) (0 : Int32).toNatClampNeg 1)))))]) [3, 2, 4, 5] (by decide) rfl
  have hFc := va_free (wc := [(xSum, .inr (8, [.ref sM, .ref sP, .ref sA, .int 0])), (xHan, .inr (3, [.int 0, .int 2, .int 1, .ref hH, .ref hR, .ref hT, .ref hM])), (hH, .inl (cI, 7, (.inl (upd (upd fh (0 : Int32).toNatClampNeg 0) (0 : Int32).toNatClampNeg 1)))), (hT, .inl (cJ, 7, (.inr (.inl (vp_updL (vp_updL ft (0 : Int32).toNatClampNeg 1) (0 : Int32).toNatClampNeg 1)))))]) hD hS hA [3, 2, 4, 5] rfl
  refine va_callv (va_runV (As := [.ref xSum, .int 2]) (rest := []) ⟨hx, hb, hml, hown, hts⟩ (c_X3_next_t2 l dC dI cB cI cJ H.size xSum sM sP sA xHan hH hR hT hM 2 (upd (upd fh (0 : Int32).toNatClampNeg 0) (0 : Int32).toNatClampNeg 1) (vp_updL (vp_updL ft (0 : Int32).toNatClampNeg 1) (0 : Int32).toNatClampNeg 1)) (cwV 2 hts gX10_hangSolids_X3_next rfl rfl rfl (by decide +kernel) ⟨Nat.le_of_ble_eq_true rfl, Nat.le_of_ble_eq_true rfl⟩) ⟨fun a U g mk q => by obtain ⟨q0, q1, qP, qK, qD⟩ := q; exact ⟨q0, q1, qP, va_K.moved (u := U) (U := U.calling g mk a) (Vm.Alike.refl U.vm) qK, qD⟩, va_recv hK hP (ci := 3) (q0 := 2) rfl rfl, fun U hU hW => ⟨rfl, by rw [hU], by rw [hU]; exact hPc, va_K.moved hW.alike hK, hDc.weaken (fun _ _ _ _ => trivial)⟩⟩ rfl rfl hl.1 rfl (lv_room (Nat.le_of_ble_eq_true rfl)) dX10_hangSolids_32 ⟨Nat.le_of_ble_eq_true rfl, Nat.le_of_ble_eq_true rfl⟩) hS (fun q _ h => hFc q h) hFc (fun u t H1 locs ht hvm hw hB hz1 hk1 hS => ?_)
  obtain ⟨hP1, hK1, hD1⟩ := hB
  rw [ht] at hP1
  obtain ⟨hP, hD⟩ := va_join (wr := [(x0, .inr (10, [.ref xTape, .ref xReader, .ref xBag, .ref xBld, .ref xAng, .ref xSum, .ref xPik, .int 0, .ref xHan, .ref xIns, .ref xShr, .ref xSta, .ref xTur])), (hM, .inl (cJ, 6, (.inr (.inl (vp_updL (fun _ => 0) (0 : Int32).toNatClampNeg 1)))))]) (w1 := [(xHan, .inr (3, [.int 0, .int 3, .int 1, .ref hH, .ref hR, .ref hT, .ref hM])), (xSum, .inr (8, [.ref sM, .ref sP, .ref sA, .int 0])), (hH, .inl (cI, 7, (.inl (upd (upd (upd fh (0 : Int32).toNatClampNeg 0) (0 : Int32).toNatClampNeg 1) (0 : Int32).toNatClampNeg 2)))), (hT, .inl (cJ, 7, (.inr (.inl (vp_updL (vp_updL (vp_updL ft (0 : Int32).toNatClampNeg 1) (0 : Int32).toNatClampNeg 1) (0 : Int32).toNatClampNeg 1)))))]) hP hD [3, 2, 4, 5] [0, 1] rfl rfl (by decide) (by decide) hk1 hFc hP1 hD1
  generalize H1 = H at hP hS ⊢
  have hP : va_P (dC, dI) vwCl [(x0, .inr (10, [.ref xTape, .ref xReader, .ref xBag, .ref xBld, .ref xAng, .ref xSum, .ref xPik, .int 0, .ref xHan, .ref xIns, .ref xShr, .ref xSta, .ref xTur])), (hM, .inl (cJ, 6, (.inr (.inl (vp_updL (fun _ => 0) (0 : Int32).toNatClampNeg 1))))), (xHan, .inr (3, [.int 0, .int 3, .int 1, .ref hH, .ref hR, .ref hT, .ref hM])), (xSum, .inr (8, [.ref sM, .ref sP, .ref sA, .int 0])), (hH, .inl (cI, 7, (.inl (upd (upd (upd fh (0 : Int32).toNatClampNeg 0) (0 : Int32).toNatClampNeg 1) (0 : Int32).toNatClampNeg 2)))), (hT, .inl (cJ, 7, (.inr (.inl (vp_updL (vp_updL (vp_updL ft (0 : Int32).toNatClampNeg 1) (0 : Int32).toNatClampNeg 1) (0 : Int32).toNatClampNeg 1)))))] H := hP
  have hD : va_D A [(x0, .inr (10, [.ref xTape, .ref xReader, .ref xBag, .ref xBld, .ref xAng, .ref xSum, .ref xPik, .int 0, .ref xHan, .ref xIns, .ref xShr, .ref xSta, .ref xTur])), (hM, .inl (cJ, 6, (.inr (.inl (vp_updL (fun _ => 0) (0 : Int32).toNatClampNeg 1))))), (xHan, .inr (3, [.int 0, .int 3, .int 1, .ref hH, .ref hR, .ref hT, .ref hM])), (xSum, .inr (8, [.ref sM, .ref sP, .ref sA, .int 0])), (hH, .inl (cI, 7, (.inl (upd (upd (upd fh (0 : Int32).toNatClampNeg 0) (0 : Int32).toNatClampNeg 1) (0 : Int32).toNatClampNeg 2)))), (hT, .inl (cJ, 7, (.inr (.inl (vp_updL (vp_updL (vp_updL ft (0 : Int32).toNatClampNeg 1) (0 : Int32).toNatClampNeg 1) (0 : Int32).toNatClampNeg 1)))))] := hD
  refine lv_iinc (v := 3) (lv' := [(2, .int 3), (0, .ref x0), (1, .int 15)]) hx hb dX10_hangSolids_35 hl (k := 0) rfl (by decide) (by decide) rfl (fun ls hl => ?_)
  refine lv_goto (tgt := 9) hx hb dX10_hangSolids_38 (by decide) ?_
  refine lv_iload_n hx hb dX10_hangSolids_9 rfl (lv_at hl 0 rfl) ?_
  refine lv_iconst (v := 4) hx hb dX10_hangSolids_10 (by decide) ?_
  refine lv_icmp_ge (tgt := 41) hx hb dX10_hangSolids_11 (by decide) (fun c => absurd c (by decide)) (fun _ => ?_)
  refine lv_iload_n hx hb dX10_hangSolids_14 rfl (lv_at hl 2 rfl) ?_
  refine lv_iload_n hx hb dX10_hangSolids_15 rfl (lv_at hl 0 rfl) ?_
  refine lv_ishr hx hb dX10_hangSolids_16 ?_
  refine lv_topi (fun x_7 ex_7 => ?_)
  obtain rfl : x_7 = 1 := ex_7.trans (by first | rfl | decide)
  refine lv_iconst (v := 1) hx hb dX10_hangSolids_17 (by decide) ?_
  refine lv_iand hx hb dX10_hangSolids_18 ?_
  refine lv_topi (fun x_8 ex_8 => ?_)
  obtain rfl : x_8 = 1 := ex_8.trans (by first | rfl | decide)
  refine lv_iconst (v := 1) hx hb dX10_hangSolids_19 (by decide) ?_
  refine lv_icmp_ne (tgt := 35) hx hb dX10_hangSolids_20 (by decide) (fun c => absurd (by decide) c) (fun _ => ?_)
  refine lv_aload_n hx hb dX10_hangSolids_23 rfl (lv_at hl 1 rfl) ?_
  refine va_get (D := (dC, dI)) (ci := 10) (v := .ref xHan) (C := RX10) (T := TX10) (N := 13) hx hb hts hiX10 hown hK hP 0 rfl rfl 8 (by decide) (hts (.fieldLink RX10 61 "ScissorsTable" "hang" "LScissorsTable$Hang;") (by decide +kernel)) (fun _ h9 => h9) rfl dX10_hangSolids_24 ?_
  refine lv_aload_n hx hb dX10_hangSolids_27 rfl (lv_at hl 1 rfl) ?_
  refine va_get (D := (dC, dI)) (ci := 10) (v := .ref xSum) (C := RX10) (T := TX10) (N := 13) hx hb hts hiX10 hown hK hP 0 rfl rfl 5 (by decide) (hts (.fieldLink RX10 51 "ScissorsTable" "sums" "LScissorsTable$Sums;") (by decide +kernel)) (fun _ h9 => h9) rfl dX10_hangSolids_28 ?_
  refine lv_iload_n hx hb dX10_hangSolids_31 rfl (lv_at hl 0 rfl) ?_
  have hPc := hP.sub (ws' := [(xSum, .inr (8, [.ref sM, .ref sP, .ref sA, .int 0])), (xHan, .inr (3, [.int 0, .int 3, .int 1, .ref hH, .ref hR, .ref hT, .ref hM])), (hH, .inl (cI, 7, (.inl (upd (upd (upd fh (0 : Int32).toNatClampNeg 0) (0 : Int32).toNatClampNeg 1) (0 : Int32).toNatClampNeg 2)))), (hT, .inl (cJ, 7, (.inr (.inl (vp_updL (vp_updL (vp_updL ft (0 : Int32).toNatClampNeg 1) (0 : Int32).toNatClampNeg 1) (0 : Int32).toNatClampNeg 1)))))]) [3, 2, 4, 5] rfl
  have hDc := hD.sub (ws' := [(xSum, .inr (8, [.ref sM, .ref sP, .ref sA, .int 0])), (xHan, .inr (3, [.int 0, .int 3, .int 1, .ref hH, .ref hR, .ref hT, .ref hM])), (hH, .inl (cI, 7, (.inl (upd (upd (upd fh (0 : Int32).toNatClampNeg 0) (0 : Int32).toNatClampNeg 1) (0 : Int32).toNatClampNeg 2)))), (hT, .inl (cJ, 7, (.inr (.inl (vp_updL (vp_updL (vp_updL ft (0 : Int32).toNatClampNeg 1) (0 : Int32).toNatClampNeg 1) (0 : Int32).toNatClampNeg 1)))))]) [3, 2, 4, 5] (by decide) rfl
  have hFc := va_free (wc := [(xSum, .inr (8, [.ref sM, .ref sP, .ref sA, .int 0])), (xHan, .inr (3, [.int 0, .int 3, .int 1, .ref hH, .ref hR, .ref hT, .ref hM])), (hH, .inl (cI, 7, (.inl (upd (upd (upd fh (0 : Int32).toNatClampNeg 0) (0 : Int32).toNatClampNeg 1) (0 : Int32).toNatClampNeg 2)))), (hT, .inl (cJ, 7, (.inr (.inl (vp_updL (vp_updL (vp_updL ft (0 : Int32).toNatClampNeg 1) (0 : Int32).toNatClampNeg 1) (0 : Int32).toNatClampNeg 1)))))]) hD hS hA [3, 2, 4, 5] rfl
  refine va_callv (va_runV (As := [.ref xSum, .int 3]) (rest := []) ⟨hx, hb, hml, hown, hts⟩ (c_X3_next_t3 l dC dI cB cI cJ H.size xSum sM sP sA xHan hH hR hT hM 3 (upd (upd (upd fh (0 : Int32).toNatClampNeg 0) (0 : Int32).toNatClampNeg 1) (0 : Int32).toNatClampNeg 2) (vp_updL (vp_updL (vp_updL ft (0 : Int32).toNatClampNeg 1) (0 : Int32).toNatClampNeg 1) (0 : Int32).toNatClampNeg 1)) (cwV 2 hts gX10_hangSolids_X3_next rfl rfl rfl (by decide +kernel) ⟨Nat.le_of_ble_eq_true rfl, Nat.le_of_ble_eq_true rfl⟩) ⟨fun a U g mk q => by obtain ⟨q0, q1, qP, qK, qD⟩ := q; exact ⟨q0, q1, qP, va_K.moved (u := U) (U := U.calling g mk a) (Vm.Alike.refl U.vm) qK, qD⟩, va_recv hK hP (ci := 3) (q0 := 2) rfl rfl, fun U hU hW => ⟨rfl, by rw [hU], by rw [hU]; exact hPc, va_K.moved hW.alike hK, hDc.weaken (fun _ _ _ _ => trivial)⟩⟩ rfl rfl hl.1 rfl (lv_room (Nat.le_of_ble_eq_true rfl)) dX10_hangSolids_32 ⟨Nat.le_of_ble_eq_true rfl, Nat.le_of_ble_eq_true rfl⟩) hS (fun q _ h => hFc q h) hFc (fun u t H1 locs ht hvm hw hB hz1 hk1 hS => ?_)
  obtain ⟨hP1, hK1, hD1⟩ := hB
  rw [ht] at hP1
  obtain ⟨hP, hD⟩ := va_join (wr := [(x0, .inr (10, [.ref xTape, .ref xReader, .ref xBag, .ref xBld, .ref xAng, .ref xSum, .ref xPik, .int 0, .ref xHan, .ref xIns, .ref xShr, .ref xSta, .ref xTur])), (hM, .inl (cJ, 6, (.inr (.inl (vp_updL (fun _ => 0) (0 : Int32).toNatClampNeg 1)))))]) (w1 := [(xHan, .inr (3, [.int 0, .int 4, .int 1, .ref hH, .ref hR, .ref hT, .ref hM])), (xSum, .inr (8, [.ref sM, .ref sP, .ref sA, .int 0])), (hH, .inl (cI, 7, (.inl (upd (upd (upd (upd fh (0 : Int32).toNatClampNeg 0) (0 : Int32).toNatClampNeg 1) (0 : Int32).toNatClampNeg 2) (0 : Int32).toNatClampNeg 3)))), (hT, .inl (cJ, 7, (.inr (.inl (vp_updL (vp_updL (vp_updL (vp_updL ft (0 : Int32).toNatClampNeg 1) (0 : Int32).toNatClampNeg 1) (0 : Int32).toNatClampNeg 1) (0 : Int32).toNatClampNeg 1)))))]) hP hD [3, 2, 4, 5] [0, 1] rfl rfl (by decide) (by decide) hk1 hFc hP1 hD1
  generalize H1 = H at hP hS ⊢
  have hP : va_P (dC, dI) vwCl [(x0, .inr (10, [.ref xTape, .ref xReader, .ref xBag, .ref xBld, .ref xAng, .ref xSum, .ref xPik, .int 0, .ref xHan, .ref xIns, .ref xShr, .ref xSta, .ref xTur])), (hM, .inl (cJ, 6, (.inr (.inl (vp_updL (fun _ => 0) (0 : Int32).toNatClampNeg 1))))), (xHan, .inr (3, [.int 0, .int 4, .int 1, .ref hH, .ref hR, .ref hT, .ref hM])), (xSum, .inr (8, [.ref sM, .ref sP, .ref sA, .int 0])), (hH, .inl (cI, 7, (.inl (upd (upd (upd (upd fh (0 : Int32).toNatClampNeg 0) (0 : Int32).toNatClampNeg 1) (0 : Int32).toNatClampNeg 2) (0 : Int32).toNatClampNeg 3)))), (hT, .inl (cJ, 7, (.inr (.inl (vp_updL (vp_updL (vp_updL (vp_updL ft (0 : Int32).toNatClampNeg 1) (0 : Int32).toNatClampNeg 1) (0 : Int32).toNatClampNeg 1) (0 : Int32).toNatClampNeg 1)))))] H := hP
  have hD : va_D A [(x0, .inr (10, [.ref xTape, .ref xReader, .ref xBag, .ref xBld, .ref xAng, .ref xSum, .ref xPik, .int 0, .ref xHan, .ref xIns, .ref xShr, .ref xSta, .ref xTur])), (hM, .inl (cJ, 6, (.inr (.inl (vp_updL (fun _ => 0) (0 : Int32).toNatClampNeg 1))))), (xHan, .inr (3, [.int 0, .int 4, .int 1, .ref hH, .ref hR, .ref hT, .ref hM])), (xSum, .inr (8, [.ref sM, .ref sP, .ref sA, .int 0])), (hH, .inl (cI, 7, (.inl (upd (upd (upd (upd fh (0 : Int32).toNatClampNeg 0) (0 : Int32).toNatClampNeg 1) (0 : Int32).toNatClampNeg 2) (0 : Int32).toNatClampNeg 3)))), (hT, .inl (cJ, 7, (.inr (.inl (vp_updL (vp_updL (vp_updL (vp_updL ft (0 : Int32).toNatClampNeg 1) (0 : Int32).toNatClampNeg 1) (0 : Int32).toNatClampNeg 1) (0 : Int32).toNatClampNeg 1)))))] := hD
  refine lv_iinc (v := 4) (lv' := [(2, .int 4), (0, .ref x0), (1, .int 15)]) hx hb dX10_hangSolids_35 hl (k := 0) rfl (by decide) (by decide) rfl (fun ls hl => ?_)
  refine lv_goto (tgt := 9) hx hb dX10_hangSolids_38 (by decide) ?_
  refine lv_iload_n hx hb dX10_hangSolids_9 rfl (lv_at hl 0 rfl) ?_
  refine lv_iconst (v := 4) hx hb dX10_hangSolids_10 (by decide) ?_
  refine lv_icmp_ge (tgt := 41) hx hb dX10_hangSolids_11 (by decide) (fun _ => ?_) (fun c => absurd (by decide) c)
  have hP9 := hP.sub (ws' := [(x0, .inr (10, [.ref xTape, .ref xReader, .ref xBag, .ref xBld, .ref xAng, .ref xSum, .ref xPik, .int 0, .ref xHan, .ref xIns, .ref xShr, .ref xSta, .ref xTur])), (xHan, .inr (3, [.int 0, .int 4, .int 1, .ref hH, .ref hR, .ref hT, .ref hM])), (xSum, .inr (8, [.ref sM, .ref sP, .ref sA, .int 0])), (hH, .inl (cI, 7, (.inl (upd (upd (upd (upd fh (0 : Int32).toNatClampNeg 0) (0 : Int32).toNatClampNeg 1) (0 : Int32).toNatClampNeg 2) (0 : Int32).toNatClampNeg 3)))), (hT, .inl (cJ, 7, (.inr (.inl (vp_updL (vp_updL (vp_updL (vp_updL ft (0 : Int32).toNatClampNeg 1) (0 : Int32).toNatClampNeg 1) (0 : Int32).toNatClampNeg 1) (0 : Int32).toNatClampNeg 1))))), (hM, .inl (cJ, 6, (.inr (.inl (vp_updL (fun _ => 0) (0 : Int32).toNatClampNeg 1)))))]) [0, 2, 3, 4, 5, 1] rfl
  have hD9 := hD.sub (ws' := [(x0, .inr (10, [.ref xTape, .ref xReader, .ref xBag, .ref xBld, .ref xAng, .ref xSum, .ref xPik, .int 0, .ref xHan, .ref xIns, .ref xShr, .ref xSta, .ref xTur])), (xHan, .inr (3, [.int 0, .int 4, .int 1, .ref hH, .ref hR, .ref hT, .ref hM])), (xSum, .inr (8, [.ref sM, .ref sP, .ref sA, .int 0])), (hH, .inl (cI, 7, (.inl (upd (upd (upd (upd fh (0 : Int32).toNatClampNeg 0) (0 : Int32).toNatClampNeg 1) (0 : Int32).toNatClampNeg 2) (0 : Int32).toNatClampNeg 3)))), (hT, .inl (cJ, 7, (.inr (.inl (vp_updL (vp_updL (vp_updL (vp_updL ft (0 : Int32).toNatClampNeg 1) (0 : Int32).toNatClampNeg 1) (0 : Int32).toNatClampNeg 1) (0 : Int32).toNatClampNeg 1))))), (hM, .inl (cJ, 6, (.inr (.inl (vp_updL (fun _ => 0) (0 : Int32).toNatClampNeg 1)))))]) [0, 2, 3, 4, 5, 1] (by decide) rfl
  refine W.widen (k := 0) (n := 0) (Nat.le_of_ble_eq_true rfl) (Nat.le_of_ble_eq_true rfl) ?_
  exact W.vret hx hb hr (fun t ht hW => ⟨⟨(), rfl, trivial, by rw [ht]; exact hP9, va_K.moved hW.alike hK, hD9⟩, hS.F ht⟩) hS.2.2 dX10_hangSolids_41
