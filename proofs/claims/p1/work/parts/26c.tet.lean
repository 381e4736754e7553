theorem dX10_tet_0 : decode cX10_tet 0 = .ok (.aload_n 0, 1) := by decide +kernel
theorem dX10_tet_1 : decode cX10_tet 1 = .ok (.getfield 28, 3) := by decide +kernel
theorem dX10_tet_4 : decode cX10_tet 4 = .ok (.iload_n 1, 1) := by decide +kernel
theorem dX10_tet_5 : decode cX10_tet 5 = .ok (.invokevirtual 141, 3) := by decide +kernel
theorem dX10_tet_8 : decode cX10_tet 8 = .ok (.ifCond .eq 12, 3) := by decide +kernel
theorem dX10_tet_20 : decode cX10_tet 20 = .ok (.new 145, 3) := by decide +kernel
theorem dX10_tet_23 : decode cX10_tet 23 = .ok (.dup, 1) := by decide +kernel
theorem dX10_tet_24 : decode cX10_tet 24 = .ok (.ldc 147, 2) := by decide +kernel
theorem dX10_tet_26 : decode cX10_tet 26 = .ok (.invokespecial 149, 3) := by decide +kernel
theorem dX10_tet_29 : decode cX10_tet 29 = .ok (.athrow, 1) := by decide +kernel
theorem dL_tet_0 : decode cL_tet 0 = .ok (.aload_n 3, 1) := by decide +kernel
theorem dL_tet_1 : decode cL_tet 1 = .ok (.iconst 0, 1) := by decide +kernel
theorem dL_tet_2 : decode cL_tet 2 = .ok (.aload_n 0, 1) := by decide +kernel
theorem dL_tet_3 : decode cL_tet 3 = .ok (.iload_n 1, 1) := by decide +kernel
theorem dL_tet_4 : decode cL_tet 4 = .ok (.iload_n 2, 1) := by decide +kernel
theorem dL_tet_5 : decode cL_tet 5 = .ok (.invokevirtual 7, 3) := by decide +kernel
theorem dL_tet_13 : decode cL_tet 13 = .ok (.astore 4, 2) := by decide +kernel
theorem dL_tet_15 : decode cL_tet 15 = .ok (.iconst 1, 1) := by decide +kernel
theorem dL_tet_16 : decode cL_tet 16 = .ok (.ireturn, 1) := by decide +kernel
set_option maxHeartbeats 4000000 in
set_option maxRecDepth 100000 in
theorem c_X10_tet (l : Launch) (hst : l.stackTraces = false) (dC : Nat → ClassId) (dI : Nat → Nat → Nat) (cB cI cJ : ClassId) (sz : Nat) (x0 xTape xReader xBag xBld xAng xSum xPik xHan xIns xShr xSta xTur bC bS bX bW bP : Nat) (p0 p1 : Int32) (sa : Nat) : vx_Met l yX10_tet nq_wX ({ frames := 7, cells := 1, slots := 6, locals := 220 }) (va_Pc [.ref x0, .int p0, .int p1] (fun U => U.heap.size = sz ∧ va_P (dC, dI) vwCl [(x0, .inr (10, [.ref xTape, .ref xReader, .ref xBag, .ref xBld, .ref xAng, .ref xSum, .ref xPik, .int 0, .ref xHan, .ref xIns, .ref xShr, .ref xSta, .ref xTur])), (xBag, .inr (1, [.ref bC, .ref bS, .ref bX, .ref bW, .ref bP, .int 0]))] U.heap ∧ va_K (dC, dI) vwCl [(cB, .byte), (cI, .int), (cJ, .long)] U ∧ va_D (fun _ => True) [(x0, .inr (10, [.ref xTape, .ref xReader, .ref xBag, .ref xBld, .ref xAng, .ref xSum, .ref xPik, .int 0, .ref xHan, .ref xIns, .ref xShr, .ref xSta, .ref xTur])), (xBag, .inr (1, [.ref bC, .ref bS, .ref bX, .ref bW, .ref bP, .int 0]))] ∧ vk_R RX10 147 "no such TET or no such what" sa U ∧ vx_Zq Bundle.tN "UNASSIGNED_STACK" Bundle.steD (va_A [(x0, .inr (10, [.ref xTape, .ref xReader, .ref xBag, .ref xBld, .ref xAng, .ref xSum, .ref xPik, .int 0, .ref xHan, .ref xIns, .ref xShr, .ref xSta, .ref xTur])), (xBag, .inr (1, [.ref bC, .ref bS, .ref bX, .ref bW, .ref bP, .int 0]))] sz) U U.heap ∧ vx_Zq Bundle.tN "SUPPRESSED_SENTINEL" Bundle.listD (va_A [(x0, .inr (10, [.ref xTape, .ref xReader, .ref xBag, .ref xBld, .ref xAng, .ref xSum, .ref xPik, .int 0, .ref xHan, .ref xIns, .ref xShr, .ref xSta, .ref xTur])), (xBag, .inr (1, [.ref bC, .ref bS, .ref bX, .ref bW, .ref bP, .int 0]))] sz) U U.heap ∧ nq_Bw U)) (va_Qi (fun (_ : Int32) (_ : Unit) => False) (fun _ _ => True) (va_A [(x0, .inr (10, [.ref xTape, .ref xReader, .ref xBag, .ref xBld, .ref xAng, .ref xSum, .ref xPik, .int 0, .ref xHan, .ref xIns, .ref xShr, .ref xSta, .ref xTur])), (xBag, .inr (1, [.ref bC, .ref bS, .ref bX, .ref bW, .ref bP, .int 0]))] sz)) (vx_X (fun _ : Unit => True) (fun E _ _ => E = nq_N) (va_A [(x0, .inr (10, [.ref xTape, .ref xReader, .ref xBag, .ref xBld, .ref xAng, .ref xSum, .ref xPik, .int 0, .ref xHan, .ref xIns, .ref xShr, .ref xSta, .ref xTur])), (xBag, .inr (1, [.ref bC, .ref bS, .ref bX, .ref bW, .ref bP, .int 0]))] sz)) 1 6 (va_A [(x0, .inr (10, [.ref xTape, .ref xReader, .ref xBag, .ref xBld, .ref xAng, .ref xSum, .ref xPik, .int 0, .ref xHan, .ref xIns, .ref xShr, .ref xSta, .ref xTur])), (xBag, .inr (1, [.ref bC, .ref bS, .ref bX, .ref bW, .ref bP, .int 0]))] sz) := by
  refine vx_ofW (cc := cX10_tet) (maxL := 3) (ret := (some .int)) (by decide) rfl ?_
  intro p e s m args below meth c s₁ B hml hno hv
  obtain ⟨rfl, hsz, hP, hK, hD0, hstr, zU, zN, hBw⟩ := hv
  have hx := B.exec
  have hb := B.bytes
  have hr := B.returns
  have hts := atoms_spec (ws := nq_wX) B.pre
  have hown : s.vm.findClass RX10 = some m.cls := findClass_of_methodNamed B.named
  have hlocks := B.notSynchronized
  have hiX10 : ∀ w ∈ u_ws RX10 TX10 13, w ∈ nq_wX := by decide +kernel
  subst hsz
  have hD := hD0.self (sz := s.heap.size)
  generalize hAe : va_A [(x0, .inr (10, [.ref xTape, .ref xReader, .ref xBag, .ref xBld, .ref xAng, .ref xSum, .ref xPik, .int 0, .ref xHan, .ref xIns, .ref xShr, .ref xSta, .ref xTur])), (xBag, .inr (1, [.ref bC, .ref bS, .ref bX, .ref bW, .ref bP, .int 0]))] s.heap.size = A at hD zU zN ⊢
  have hA : ∀ q : Nat, s.heap.size ≤ q → A q := fun q h => by rw [← hAe]; exact Or.inr h
  have hS : va_S A s.heap s.heap [] := va_S.rf
  have hP : va_P (dC, dI) vwCl [(x0, .inr (10, [.ref xTape, .ref xReader, .ref xBag, .ref xBld, .ref xAng, .ref xSum, .ref xPik, .int 0, .ref xHan, .ref xIns, .ref xShr, .ref xSta, .ref xTur])), (xBag, .inr (1, [.ref bC, .ref bS, .ref bX, .ref bW, .ref bP, .int 0]))] s.heap := hP
  have hl := lv_entry ([.ref x0, .int p0, .int p1]) (n := 3) (Nat.le_of_ble_eq_true rfl)
  rw [lg_entry_eq]
  generalize (lg_sl ([.ref x0, .int p0, .int p1]) ++ List.replicate (3 - (lg_sl ([.ref x0, .int p0, .int p1])).length) Slot.unset).toArray = ls at hl ⊢
  have hl : lv_has ls 3 [(0, .ref x0), (1, .int p0), (2, .int p1)] := hl
  refine lv_aload_n hx hb dX10_tet_0 rfl (lv_at hl 0 rfl) ?_
  refine va_get (D := (dC, dI)) (ci := 10) (v := .ref xBag) (C := RX10) (T := TX10) (N := 13) hx hb hts hiX10 hown hK hP 0 rfl rfl 2 (by decide) (hts (.fieldLink RX10 28 "ScissorsTable" "bag" "LScissorsTable$Bag;") (by decide +kernel)) (fun _ h9 => h9) rfl dX10_tet_1 ?_
  refine lv_iload_n hx hb dX10_tet_4 rfl (lv_at hl 1 rfl) ?_
  have hPc := hP.sub (ws' := [(xBag, .inr (1, [.ref bC, .ref bS, .ref bX, .ref bW, .ref bP, .int 0]))]) [1] rfl
  have hDc := hD.sub (ws' := [(xBag, .inr (1, [.ref bC, .ref bS, .ref bX, .ref bW, .ref bP, .int 0]))]) [1] (by decide) rfl
  have hFc := va_free (wc := [(xBag, .inr (1, [.ref bC, .ref bS, .ref bX, .ref bW, .ref bP, .int 0]))]) hD hS hA [1] rfl
  refine va_calli (va_runV (As := [.int p0]) (rest := []) ⟨hx, hb, hml, hown, hts⟩ (c_X1_has l dC dI cB cI cJ s.heap.size xBag bC bS bX bW bP p0) (cwV 1 hts nq_g1 rfl rfl rfl (by decide +kernel) ⟨Nat.le_of_ble_eq_true rfl, Nat.le_of_ble_eq_true rfl⟩) ⟨fun a U g mk q => by obtain ⟨q0, q1, qP, qK, qD⟩ := q; exact ⟨q0, q1, qP, va_K.moved (u := U) (U := U.calling g mk a) (Vm.Alike.refl U.vm) qK, qD⟩, va_recv hK hP (ci := 1) (q0 := 1) rfl rfl, fun U hU hW => ⟨rfl, by rw [hU], by rw [hU]; exact hPc, va_K.moved hW.alike hK, hDc.weaken (fun _ _ _ _ => trivial)⟩⟩ rfl rfl hl.1 rfl (lv_room (Nat.le_of_ble_eq_true rfl)) dX10_tet_5 ⟨Nat.le_of_ble_eq_true rfl, Nat.le_of_ble_eq_true rfl⟩) hS (fun q _ h => hFc q h) hFc (fun r_1 u t H1 locs ht hvm hw hB hz1 hk1 hS => ?_)
  obtain ⟨hP1, hK1, hD1⟩ := hB
  rw [ht] at hP1
  obtain ⟨hP, hD⟩ := va_join (wr := [(x0, .inr (10, [.ref xTape, .ref xReader, .ref xBag, .ref xBld, .ref xAng, .ref xSum, .ref xPik, .int 0, .ref xHan, .ref xIns, .ref xShr, .ref xSta, .ref xTur]))]) (w1 := [(xBag, .inr (1, [.ref bC, .ref bS, .ref bX, .ref bW, .ref bP, .int 0]))]) hP hD [1] [0] rfl rfl (by decide) (by decide) hk1 hFc hP1 hD1
  generalize H1 = H at hP hS ⊢
  have hP : va_P (dC, dI) vwCl [(x0, .inr (10, [.ref xTape, .ref xReader, .ref xBag, .ref xBld, .ref xAng, .ref xSum, .ref xPik, .int 0, .ref xHan, .ref xIns, .ref xShr, .ref xSta, .ref xTur])), (xBag, .inr (1, [.ref bC, .ref bS, .ref bX, .ref bW, .ref bP, .int 0]))] H := hP
  have hD : va_D A [(x0, .inr (10, [.ref xTape, .ref xReader, .ref xBag, .ref xBld, .ref xAng, .ref xSum, .ref xPik, .int 0, .ref xHan, .ref xIns, .ref xShr, .ref xSta, .ref xTur])), (xBag, .inr (1, [.ref bC, .ref bS, .ref bX, .ref bW, .ref bP, .int 0]))] := hD
  have hr_1 := hw
  obtain rfl : r_1 = 0 := hr_1
  refine lv_if_eq (tgt := 20) hx hb dX10_tet_8 (by decide) (fun _ => ?_) (fun c => absurd (by decide) c)
  refine nq_make (own := RX10) (text := "no such TET or no such what") (ik := 145) (is := 147) (ic := 149) (sa := sa) (A := A) hx hb hst hown (hts (.classLink RX10 145 nq_N) (by decide +kernel)) (hts (.initialized nq_N) (by decide +kernel)) hstr (vx_hat (fun w hw => hts w (List.mem_cons_of_mem _ (List.mem_append_right _ hw))) nq_h2 (nq_Bw_all hBw)) nq_ot zU zN hS (by rw [hml]; exact hl.1) dX10_tet_20 dX10_tet_23 dX10_tet_24 dX10_tet_26 (Nat.le_of_ble_eq_true rfl) (Nat.le_of_ble_eq_true rfl) (Nat.le_of_ble_eq_true rfl) (Nat.le_of_ble_eq_true rfl) (fun q H1 ce h1 h2 h3 hS1 => ?_)
  refine vx_athrow hx hb dX10_tet_29 ?_
  exact vx_out (fun x9 h9 => (hno x9 h9).elim) hlocks h1 h2 h3 (fun t ht hAl => ⟨(), trivial, rfl, hS1.F ht⟩) hS1.2.2 (Nat.le_refl _) (Nat.le_refl _)
set_option maxHeartbeats 4000000 in
set_option maxRecDepth 100000 in
theorem c_L_tet (l : Launch) (hst : l.stackTraces = false) (dC : Nat → ClassId) (dI : Nat → Nat → Nat) (cB cI cJ : ClassId) (sz : Nat) (x0 xTape xReader xBag xBld xAng xSum xPik xHan xIns xShr xSta xTur bC bS bX bW bP o0 : Nat) (p0 p1 : Int32) (sa : Nat) : vx_Met l yL_tet nq_wL ({ frames := 8, cells := 1, slots := 6, locals := 260 }) (va_Pc [.ref x0, .int p0, .int p1, .ref o0] (fun U => U.heap.size = sz ∧ va_P (dC, dI) vwCl [(x0, .inr (10, [.ref xTape, .ref xReader, .ref xBag, .ref xBld, .ref xAng, .ref xSum, .ref xPik, .int 0, .ref xHan, .ref xIns, .ref xShr, .ref xSta, .ref xTur])), (xBag, .inr (1, [.ref bC, .ref bS, .ref bX, .ref bW, .ref bP, .int 0]))] U.heap ∧ va_K (dC, dI) vwCl [(cB, .byte), (cI, .int), (cJ, .long)] U ∧ va_D (fun _ => True) [(x0, .inr (10, [.ref xTape, .ref xReader, .ref xBag, .ref xBld, .ref xAng, .ref xSum, .ref xPik, .int 0, .ref xHan, .ref xIns, .ref xShr, .ref xSta, .ref xTur])), (xBag, .inr (1, [.ref bC, .ref bS, .ref bX, .ref bW, .ref bP, .int 0]))] ∧ vk_R RX10 147 "no such TET or no such what" sa U ∧ vx_Zq Bundle.tN "UNASSIGNED_STACK" Bundle.steD (va_A [(x0, .inr (10, [.ref xTape, .ref xReader, .ref xBag, .ref xBld, .ref xAng, .ref xSum, .ref xPik, .int 0, .ref xHan, .ref xIns, .ref xShr, .ref xSta, .ref xTur])), (xBag, .inr (1, [.ref bC, .ref bS, .ref bX, .ref bW, .ref bP, .int 0]))] sz) U U.heap ∧ vx_Zq Bundle.tN "SUPPRESSED_SENTINEL" Bundle.listD (va_A [(x0, .inr (10, [.ref xTape, .ref xReader, .ref xBag, .ref xBld, .ref xAng, .ref xSum, .ref xPik, .int 0, .ref xHan, .ref xIns, .ref xShr, .ref xSta, .ref xTur])), (xBag, .inr (1, [.ref bC, .ref bS, .ref bX, .ref bW, .ref bP, .int 0]))] sz) U U.heap ∧ nq_Bw U)) (va_Qi (fun (r : Int32) (_ : Unit) => r = 1) (fun _ _ => True) (va_A [(x0, .inr (10, [.ref xTape, .ref xReader, .ref xBag, .ref xBld, .ref xAng, .ref xSum, .ref xPik, .int 0, .ref xHan, .ref xIns, .ref xShr, .ref xSta, .ref xTur])), (xBag, .inr (1, [.ref bC, .ref bS, .ref bX, .ref bW, .ref bP, .int 0]))] sz)) (vx_X (fun _ : Unit => False) (fun _ _ _ => True) (va_A [(x0, .inr (10, [.ref xTape, .ref xReader, .ref xBag, .ref xBld, .ref xAng, .ref xSum, .ref xPik, .int 0, .ref xHan, .ref xIns, .ref xShr, .ref xSta, .ref xTur])), (xBag, .inr (1, [.ref bC, .ref bS, .ref bX, .ref bW, .ref bP, .int 0]))] sz)) 1 6 (va_A [(x0, .inr (10, [.ref xTape, .ref xReader, .ref xBag, .ref xBld, .ref xAng, .ref xSum, .ref xPik, .int 0, .ref xHan, .ref xIns, .ref xShr, .ref xSta, .ref xTur])), (xBag, .inr (1, [.ref bC, .ref bS, .ref bX, .ref bW, .ref bP, .int 0]))] sz) := by
  refine vx_ofWH (cc := cL_tet) (maxL := 5) (ret := (some .int)) (hh := [(0, 10, 13, 13)]) (by decide) rfl ?_
  intro p e s m args below meth c s₁ B hml hv
  obtain ⟨rfl, hsz, hP, hK, hD0, hstr, zU, zN, hBw⟩ := hv
  have hx := B.exec
  have hb := B.bytes
  have hr := B.returns
  have hts := atoms_spec (ws := nq_wL) B.pre
  have hown : s.vm.findClass RL = some m.cls := findClass_of_methodNamed B.named
  have hlocks := B.notSynchronized
  subst hsz
  have hD := hD0.self (sz := s.heap.size)
  generalize hAe : va_A [(x0, .inr (10, [.ref xTape, .ref xReader, .ref xBag, .ref xBld, .ref xAng, .ref xSum, .ref xPik, .int 0, .ref xHan, .ref xIns, .ref xShr, .ref xSta, .ref xTur])), (xBag, .inr (1, [.ref bC, .ref bS, .ref bX, .ref bW, .ref bP, .int 0]))] s.heap.size = A at hD zU zN ⊢
  have hA : ∀ q : Nat, s.heap.size ≤ q → A q := fun q h => by rw [← hAe]; exact Or.inr h
  have hS : va_S A s.heap s.heap [] := va_S.rf
  have hP : va_P (dC, dI) vwCl [(x0, .inr (10, [.ref xTape, .ref xReader, .ref xBag, .ref xBld, .ref xAng, .ref xSum, .ref xPik, .int 0, .ref xHan, .ref xIns, .ref xShr, .ref xSta, .ref xTur])), (xBag, .inr (1, [.ref bC, .ref bS, .ref bX, .ref bW, .ref bP, .int 0]))] s.heap := hP
  have hl := lv_entry ([.ref x0, .int p0, .int p1, .ref o0]) (n := 5) (Nat.le_of_ble_eq_true rfl)
  rw [lg_entry_eq]
  generalize (lg_sl ([.ref x0, .int p0, .int p1, .ref o0]) ++ List.replicate (5 - (lg_sl ([.ref x0, .int p0, .int p1, .ref o0])).length) Slot.unset).toArray = ls at hl ⊢
  have hl : lv_has ls 5 [(0, .ref x0), (1, .int p0), (2, .int p1), (3, .ref o0)] := hl
  have htab := vx_table (x := yL_tet) B (hts (.codeWith yL_tet cL_tet 5 (some .int) [(0, 10, 13, 13)]) List.mem_cons_self)
  refine lv_aload_n hx hb dL_tet_0 rfl (lv_at hl 3 rfl) ?_
  refine lv_iconst (v := 0) hx hb dL_tet_1 (by decide) ?_
  refine lv_aload_n hx hb dL_tet_2 rfl (lv_at hl 0 rfl) ?_
  refine lv_iload_n hx hb dL_tet_3 rfl (lv_at hl 1 rfl) ?_
  refine lv_iload_n hx hb dL_tet_4 rfl (lv_at hl 2 rfl) ?_
  have hPc := hP.sub (ws' := [(x0, .inr (10, [.ref xTape, .ref xReader, .ref xBag, .ref xBld, .ref xAng, .ref xSum, .ref xPik, .int 0, .ref xHan, .ref xIns, .ref xShr, .ref xSta, .ref xTur])), (xBag, .inr (1, [.ref bC, .ref bS, .ref bX, .ref bW, .ref bP, .int 0]))]) [0, 1] rfl
  have hDc := hD.sub (ws' := [(x0, .inr (10, [.ref xTape, .ref xReader, .ref xBag, .ref xBld, .ref xAng, .ref xSum, .ref xPik, .int 0, .ref xHan, .ref xIns, .ref xShr, .ref xSta, .ref xTur])), (xBag, .inr (1, [.ref bC, .ref bS, .ref bX, .ref bW, .ref bP, .int 0]))]) [0, 1] (by decide) rfl
  have hFc := va_free (wc := [(x0, .inr (10, [.ref xTape, .ref xReader, .ref xBag, .ref xBld, .ref xAng, .ref xSum, .ref xPik, .int 0, .ref xHan, .ref xIns, .ref xShr, .ref xSta, .ref xTur])), (xBag, .inr (1, [.ref bC, .ref bS, .ref bX, .ref bW, .ref bP, .int 0]))]) hD hS hA [0, 1] rfl
  refine vx_calli (vx_runV (As := [.int p0, .int p1]) (rest := [.int 0, .ref o0]) ⟨hx, hb, hml, hown, hts⟩ (c_X10_tet l hst dC dI cB cI cJ s.heap.size x0 xTape xReader xBag xBld xAng xSum xPik xHan xIns xShr xSta xTur bC bS bX bW bP p0 p1 sa) (cwV 2 hts nq_g2 rfl rfl rfl (by decide +kernel) ⟨Nat.le_of_ble_eq_true rfl, Nat.le_of_ble_eq_true rfl⟩) ⟨fun a U g mk q => by obtain ⟨q0, q1, qP, qK, qD, qs, qU, qN, qB⟩ := q; exact ⟨q0, q1, qP, va_K.moved (u := U) (U := U.calling g mk a) (Vm.Alike.refl U.vm) qK, qD, vk_R.same rfl qs, vx_Zq.moved (u := U) (U := U.calling g mk a) (Vm.Alike.refl U.vm) qU, vx_Zq.moved (u := U) (U := U.calling g mk a) (Vm.Alike.refl U.vm) qN, nq_Bw_same rfl qB⟩, va_recv hK hP (ci := 10) (q0 := 0) rfl rfl, fun U hU hW => ⟨rfl, by rw [hU], by rw [hU]; exact hPc, va_K.moved hW.alike hK, hDc.weaken (fun _ _ _ _ => trivial), vk_R.warm hW hstr, by rw [hU]; exact vx_Zq.moved hW.alike ((zU.kept hS.2.1).narrow hFc), by rw [hU]; exact vx_Zq.moved hW.alike ((zN.kept hS.2.1).narrow hFc), nq_Bw_warm hW hBw⟩⟩ rfl rfl hl.1 rfl (lv_room (Nat.le_of_ble_eq_true rfl)) dL_tet_5 ⟨Nat.le_of_ble_eq_true rfl, Nat.le_of_ble_eq_true rfl⟩) hS (fun q _ h => hFc q h) hFc (fun q _ h => hFc q h) (fun E ce q9 u t H1 locs ht hal hpx hBX hsz9 hkp hS hce hcv hcl => ?_) (fun r u t H1 locs ht hvm hw hB hz1 hk1 hS => hw.elim)
  obtain rfl : E = nq_N := hBX
  refine vx_catch hown [] ⟨0, 10, 13, 13⟩ [] htab (fun z hz => nomatch hz) (by decide) (by decide) (hts (.classLink RL 13 nq_N) (by decide +kernel)) (va_Nw.use rfl hBw.2.2.2) hce hcv hcl ?_
  refine W.widen (k := 1) (n := 6) (Nat.le_of_ble_eq_true rfl) (Nat.le_of_ble_eq_true rfl) ?_
  refine lv_astore (lv' := [(4, .ref q9), (0, .ref x0), (1, .int p0), (2, .int p1), (3, .ref o0)]) hx hb dL_tet_13 hl (by decide) rfl (fun ls hl => ?_)
  refine lv_iconst (v := 1) hx hb dL_tet_15 (by decide) ?_
  refine vx_ret ?_
  exact W.iret (v := 1) hx hb hr (fun t ht hW => ⟨⟨1, (), rfl, rfl, trivial⟩, hS.F ht⟩) hS.2.2 dL_tet_16
