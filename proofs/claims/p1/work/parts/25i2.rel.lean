set_option maxRecDepth 20000 in
theorem ggX10_relationOf_X10_isSetOfSolids : GoodIn wsX10_relationOf wsX10_isSetOfSolids := goodIn_r _ [6] (by decide +kernel) (by decide +kernel)
set_option maxRecDepth 20000 in
theorem gX10_relationOf_X10_isSetOfSolids : GoodIn wsX10_relationOf (va_wsS RX10 322 yX10_isSetOfSolids wsX10_isSetOfSolids) := goodIn_app (goodIn_of _ (by decide +kernel)) ggX10_relationOf_X10_isSetOfSolids
set_option maxRecDepth 20000 in
theorem ggX10_relationOf_X10_isSolid : GoodIn wsX10_relationOf wsX10_isSolid := goodIn_r _ [9] (by decide +kernel) (by decide +kernel)
set_option maxRecDepth 20000 in
theorem gX10_relationOf_X10_isSolid : GoodIn wsX10_relationOf (va_wsS RX10 194 yX10_isSolid wsX10_isSolid) := goodIn_app (goodIn_of _ (by decide +kernel)) ggX10_relationOf_X10_isSolid
set_option maxRecDepth 20000 in
theorem ggX10_relationOf_X10_hangSolids : GoodIn wsX10_relationOf wsX10_hangSolids := goodIn_r _ [13, 2, 14, 15, 16, 17, 18, 19, 20, 21, 22, 23, 24, 25, 26, 27, 28, 29, 30, 31, 32, 33, 34, 35, 36, 37, 38, 39, 40, 41, 42, 43, 44, 45, 46, 47, 48, 49, 50, 51, 52, 53, 54, 55, 5, 56, 57, 58, 59, 60, 76, 77, 78, 79, 80, 81, 82, 83, 84, 85, 86, 87, 88, 89, 90, 91, 92, 93, 94, 95, 96, 97, 98, 99] (by decide +kernel) (by decide +kernel)
set_option maxRecDepth 20000 in
theorem gX10_relationOf_X10_hangSolids : GoodIn wsX10_relationOf (wsV RX10 325 RX10 yX10_hangSolids wsX10_hangSolids) := goodIn_app (goodIn_of _ (by decide +kernel)) ggX10_relationOf_X10_hangSolids
set_option maxRecDepth 20000 in
theorem ggX10_relationOf_X3_canTell : GoodIn wsX10_relationOf wsX3_canTell := goodIn_r _ [64, 50, 22, 89, 90, 91, 92, 93, 94, 95] (by decide +kernel) (by decide +kernel)
set_option maxRecDepth 20000 in
theorem gX10_relationOf_X3_canTell : GoodIn wsX10_relationOf (wsV RX10 316 RX3 yX3_canTell wsX3_canTell) := goodIn_app (goodIn_of _ (by decide +kernel)) ggX10_relationOf_X3_canTell
set_option maxRecDepth 20000 in
theorem ggX10_relationOf_J6_bitCount_0f7a4 : GoodIn wsX10_relationOf wsJ6_bitCount_0f7a4 := goodIn_r _ [68, 69, 70, 71] (by decide +kernel) (by decide +kernel)
set_option maxRecDepth 20000 in
theorem gX10_relationOf_J6_bitCount_0f7a4 : GoodIn wsX10_relationOf (va_wsS RX10 328 yJ6_bitCount_0f7a4 wsJ6_bitCount_0f7a4) := goodIn_app (goodIn_of _ (by decide +kernel)) ggX10_relationOf_J6_bitCount_0f7a4
set_option maxRecDepth 20000 in
theorem ggX10_relationOf_X3_timesOf : GoodIn wsX10_relationOf wsX3_timesOf := goodIn_r _ [75, 50, 89, 90, 91, 92, 93, 94, 95] (by decide +kernel) (by decide +kernel)
set_option maxRecDepth 20000 in
theorem gX10_relationOf_X3_timesOf : GoodIn wsX10_relationOf (wsV RX10 319 RX3 yX3_timesOf wsX3_timesOf) := goodIn_app (goodIn_of _ (by decide +kernel)) ggX10_relationOf_X3_timesOf
theorem dX10_relationOf_0 : decode cX10_relationOf 0 = .ok (.iload_n 1, 1) := by decide +kernel
theorem dX10_relationOf_1 : decode cX10_relationOf 1 = .ok (.invokestatic 322, 3) := by decide +kernel
theorem dX10_relationOf_4 : decode cX10_relationOf 4 = .ok (.ifCond .eq 10, 3) := by decide +kernel
theorem dX10_relationOf_7 : decode cX10_relationOf 7 = .ok (.iload_n 2, 1) := by decide +kernel
theorem dX10_relationOf_8 : decode cX10_relationOf 8 = .ok (.invokestatic 194, 3) := by decide +kernel
theorem dX10_relationOf_11 : decode cX10_relationOf 11 = .ok (.ifCond .ne 6, 3) := by decide +kernel
theorem dX10_relationOf_14 : decode cX10_relationOf 14 = .ok (.ldc 140, 2) := by decide +kernel
theorem dX10_relationOf_16 : decode cX10_relationOf 16 = .ok (.ireturn, 1) := by decide +kernel
theorem dX10_relationOf_17 : decode cX10_relationOf 17 = .ok (.aload_n 0, 1) := by decide +kernel
theorem dX10_relationOf_18 : decode cX10_relationOf 18 = .ok (.iload_n 1, 1) := by decide +kernel
theorem dX10_relationOf_19 : decode cX10_relationOf 19 = .ok (.invokevirtual 325, 3) := by decide +kernel
theorem dX10_relationOf_22 : decode cX10_relationOf 22 = .ok (.aload_n 0, 1) := by decide +kernel
theorem dX10_relationOf_23 : decode cX10_relationOf 23 = .ok (.getfield 61, 3) := by decide +kernel
theorem dX10_relationOf_26 : decode cX10_relationOf 26 = .ok (.invokevirtual 316, 3) := by decide +kernel
theorem dX10_relationOf_29 : decode cX10_relationOf 29 = .ok (.ifCond .ne 6, 3) := by decide +kernel
theorem dX10_relationOf_32 : decode cX10_relationOf 32 = .ok (.ldc 140, 2) := by decide +kernel
theorem dX10_relationOf_34 : decode cX10_relationOf 34 = .ok (.ireturn, 1) := by decide +kernel
theorem dX10_relationOf_35 : decode cX10_relationOf 35 = .ok (.iload_n 1, 1) := by decide +kernel
theorem dX10_relationOf_36 : decode cX10_relationOf 36 = .ok (.iload_n 2, 1) := by decide +kernel
theorem dX10_relationOf_37 : decode cX10_relationOf 37 = .ok (.ishr, 1) := by decide +kernel
theorem dX10_relationOf_38 : decode cX10_relationOf 38 = .ok (.iconst 1, 1) := by decide +kernel
theorem dX10_relationOf_39 : decode cX10_relationOf 39 = .ok (.iand, 1) := by decide +kernel
theorem dX10_relationOf_40 : decode cX10_relationOf 40 = .ok (.ifCond .ne 5, 3) := by decide +kernel
theorem dX10_relationOf_43 : decode cX10_relationOf 43 = .ok (.iconst 0, 1) := by decide +kernel
theorem dX10_relationOf_44 : decode cX10_relationOf 44 = .ok (.ireturn, 1) := by decide +kernel
theorem dX10_relationOf_45 : decode cX10_relationOf 45 = .ok (.aload_n 0, 1) := by decide +kernel
theorem dX10_relationOf_46 : decode cX10_relationOf 46 = .ok (.getfield 61, 3) := by decide +kernel
theorem dX10_relationOf_49 : decode cX10_relationOf 49 = .ok (.iload_n 1, 1) := by decide +kernel
theorem dX10_relationOf_50 : decode cX10_relationOf 50 = .ok (.iconst 1, 1) := by decide +kernel
theorem dX10_relationOf_51 : decode cX10_relationOf 51 = .ok (.iload_n 2, 1) := by decide +kernel
theorem dX10_relationOf_52 : decode cX10_relationOf 52 = .ok (.ishl, 1) := by decide +kernel
theorem dX10_relationOf_53 : decode cX10_relationOf 53 = .ok (.iconst 1, 1) := by decide +kernel
theorem dX10_relationOf_54 : decode cX10_relationOf 54 = .ok (.isub, 1) := by decide +kernel
theorem dX10_relationOf_55 : decode cX10_relationOf 55 = .ok (.iand, 1) := by decide +kernel
theorem dX10_relationOf_56 : decode cX10_relationOf 56 = .ok (.invokestatic 328, 3) := by decide +kernel
theorem dX10_relationOf_59 : decode cX10_relationOf 59 = .ok (.invokevirtual 319, 3) := by decide +kernel
theorem dX10_relationOf_62 : decode cX10_relationOf 62 = .ok (.ireturn, 1) := by decide +kernel
set_option maxHeartbeats 4000000 in
set_option maxRecDepth 100000 in
theorem c_X10_relationOf_0 (l : Launch) (dC : Nat → ClassId) (dI : Nat → Nat → Nat) (cB cI cJ : ClassId) (sz : Nat) (x0 xTape xReader xBag xBld xAng xSum xPik xHan xIns xShr xSta xTur sM sP sA hH hR hT hM : Nat) (p1 : Int32) : Met l yX10_relationOf wsX10_relationOf ({ frames := 12, cells := 0, slots := 0, locals := 400 }) (va_Pc [.ref x0, .int 0, .int p1] (fun U => U.heap.size = sz ∧ va_P (dC, dI) vwCl [(x0, .inr (10, [.ref xTape, .ref xReader, .ref xBag, .ref xBld, .ref xAng, .ref xSum, .ref xPik, .int 0, .ref xHan, .ref xIns, .ref xShr, .ref xSta, .ref xTur])), (xSum, .inr (8, [.ref sM, .ref sP, .ref sA, .int 0])), (xHan, .inr (3, [.int 0, .int 0, .int 0, .ref hH, .ref hR, .ref hT, .ref hM])), (hH, .inl (cI, 7, (.inl (fun _ => 0)))), (hT, .inl (cJ, 7, (.inr (.inl (fun _ => 0))))), (hM, .inl (cJ, 6, (.inr (.inl (fun _ => 0)))))] U.heap ∧ va_K (dC, dI) vwCl [(cB, .byte), (cI, .int), (cJ, .long)] U ∧ va_D (fun _ => True) [(x0, .inr (10, [.ref xTape, .ref xReader, .ref xBag, .ref xBld, .ref xAng, .ref xSum, .ref xPik, .int 0, .ref xHan, .ref xIns, .ref xShr, .ref xSta, .ref xTur])), (xSum, .inr (8, [.ref sM, .ref sP, .ref sA, .int 0])), (xHan, .inr (3, [.int 0, .int 0, .int 0, .ref hH, .ref hR, .ref hT, .ref hM])), (hH, .inl (cI, 7, (.inl (fun _ => 0)))), (hT, .inl (cJ, 7, (.inr (.inl (fun _ => 0))))), (hM, .inl (cJ, 6, (.inr (.inl (fun _ => 0)))))] ∧ va_Nw (.methodLinkNest RX3 62 yX10_gcd "ScissorsTable") U)) (va_Qi (fun (r : Int32) (_ : Unit) => r = sp_rel 0 p1) (fun _ _ => True) (va_A [(x0, .inr (10, [.ref xTape, .ref xReader, .ref xBag, .ref xBld, .ref xAng, .ref xSum, .ref xPik, .int 0, .ref xHan, .ref xIns, .ref xShr, .ref xSta, .ref xTur])), (xSum, .inr (8, [.ref sM, .ref sP, .ref sA, .int 0])), (xHan, .inr (3, [.int 0, .int 0, .int 0, .ref hH, .ref hR, .ref hT, .ref hM])), (hH, .inl (cI, 7, (.inl (fun _ => 0)))), (hT, .inl (cJ, 7, (.inr (.inl (fun _ => 0))))), (hM, .inl (cJ, 6, (.inr (.inl (fun _ => 0)))))] sz)) 0 0 (va_A [(x0, .inr (10, [.ref xTape, .ref xReader, .ref xBag, .ref xBld, .ref xAng, .ref xSum, .ref xPik, .int 0, .ref xHan, .ref xIns, .ref xShr, .ref xSta, .ref xTur])), (xSum, .inr (8, [.ref sM, .ref sP, .ref sA, .int 0])), (xHan, .inr (3, [.int 0, .int 0, .int 0, .ref hH, .ref hR, .ref hT, .ref hM])), (hH, .inl (cI, 7, (.inl (fun _ => 0)))), (hT, .inl (cJ, 7, (.inr (.inl (fun _ => 0))))), (hM, .inl (cJ, 6, (.inr (.inl (fun _ => 0)))))] sz) := by
  refine Met.ofW (cc := cX10_relationOf) (maxL := 3) (ret := (some .int)) (by decide) rfl ?_
  intro p e s m args below meth c s₁ B hml hv
  obtain ⟨rfl, hsz, hP, hK, hD0, hN0⟩ := hv
  have hx := B.exec
  have hb := B.bytes
  have hr := B.returns
  have hts := atoms_spec (ws := wsX10_relationOf) B.pre
  have hown : s.vm.findClass RX10 = some m.cls := findClass_of_methodNamed B.named
  have hlocks := B.notSynchronized
  have hiX10 : ∀ w ∈ u_ws RX10 TX10 13, w ∈ wsX10_relationOf := by decide +kernel
  subst hsz
  have hD := hD0.self (sz := s.heap.size)
  generalize hAe : va_A [(x0, .inr (10, [.ref xTape, .ref xReader, .ref xBag, .ref xBld, .ref xAng, .ref xSum, .ref xPik, .int 0, .ref xHan, .ref xIns, .ref xShr, .ref xSta, .ref xTur])), (xSum, .inr (8, [.ref sM, .ref sP, .ref sA, .int 0])), (xHan, .inr (3, [.int 0, .int 0, .int 0, .ref hH, .ref hR, .ref hT, .ref hM])), (hH, .inl (cI, 7, (.inl (fun _ => 0)))), (hT, .inl (cJ, 7, (.inr (.inl (fun _ => 0))))), (hM, .inl (cJ, 6, (.inr (.inl (fun _ => 0)))))] s.heap.size = A at hD ⊢
  have hA : ∀ q : Nat, s.heap.size ≤ q → A q := fun q h => by rw [← hAe]; exact Or.inr h
  have hS : va_S A s.heap s.heap [] := va_S.rf
  have hP : va_P (dC, dI) vwCl [(x0, .inr (10, [.ref xTape, .ref xReader, .ref xBag, .ref xBld, .ref xAng, .ref xSum, .ref xPik, .int 0, .ref xHan, .ref xIns, .ref xShr, .ref xSta, .ref xTur])), (xSum, .inr (8, [.ref sM, .ref sP, .ref sA, .int 0])), (xHan, .inr (3, [.int 0, .int 0, .int 0, .ref hH, .ref hR, .ref hT, .ref hM])), (hH, .inl (cI, 7, (.inl (fun _ => 0)))), (hT, .inl (cJ, 7, (.inr (.inl (fun _ => 0))))), (hM, .inl (cJ, 6, (.inr (.inl (fun _ => 0)))))] s.heap := hP
  have hl := lv_entry ([.ref x0, .int 0, .int p1]) (n := 3) (Nat.le_of_ble_eq_true rfl)
  rw [lg_entry_eq]
  generalize (lg_sl ([.ref x0, .int 0, .int p1]) ++ List.replicate (3 - (lg_sl ([.ref x0, .int 0, .int p1])).length) Slot.unset).toArray = ls at hl ⊢
  have hl : lv_has ls 3 [(0, .ref x0), (1, .int 0), (2, .int p1)] := hl
  refine lv_iload_n hx hb dX10_relationOf_0 rfl (lv_at hl 1 rfl) ?_
  have hPc := hP.sub (ws' := []) [] rfl
  have hDc := hD.sub (ws' := []) [] (by decide) rfl
  have hFc := va_free (wc := []) hD hS hA [] rfl
  refine va_calli (va_runS (As := [.int 0]) (rest := []) ⟨hx, hb, hml, hown, hts⟩ (c_X10_isSetOfSolids l dC dI cB cI cJ s.heap.size 0) (va_cwS 1 hts gX10_relationOf_X10_isSetOfSolids rfl rfl rfl (by decide +kernel) ⟨Nat.le_of_ble_eq_true rfl, Nat.le_of_ble_eq_true rfl⟩) ⟨fun a U g mk q => by obtain ⟨q0, q1, qP, qK, qD⟩ := q; exact ⟨q0, q1, qP, va_K.moved (u := U) (U := U.calling g mk a) (Vm.Alike.refl U.vm) qK, qD⟩, fun U hU hW => ⟨rfl, by rw [hU], by rw [hU]; exact hPc, va_K.moved hW.alike hK, hDc.weaken (fun _ _ _ _ => trivial)⟩⟩ rfl rfl hl.1 rfl (lv_room (Nat.le_of_ble_eq_true rfl)) dX10_relationOf_1 ⟨Nat.le_of_ble_eq_true rfl, Nat.le_of_ble_eq_true rfl⟩) hS (fun q _ h => hFc q h) hFc (fun r_1 u t H1 locs ht hvm hw hB hz1 hk1 hS => ?_)
  have hP1 : va_P (dC, dI) vwCl [] H1 := fun k q h => by simp at h
  have hD1 : va_D (va_A [] s.heap.size) [] := ⟨fun i j p q h => by simp at h, fun k q h => by simp at h⟩
  obtain ⟨hP, hD⟩ := va_join (wr := [(x0, .inr (10, [.ref xTape, .ref xReader, .ref xBag, .ref xBld, .ref xAng, .ref xSum, .ref xPik, .int 0, .ref xHan, .ref xIns, .ref xShr, .ref xSta, .ref xTur])), (xSum, .inr (8, [.ref sM, .ref sP, .ref sA, .int 0])), (xHan, .inr (3, [.int 0, .int 0, .int 0, .ref hH, .ref hR, .ref hT, .ref hM])), (hH, .inl (cI, 7, (.inl (fun _ => 0)))), (hT, .inl (cJ, 7, (.inr (.inl (fun _ => 0))))), (hM, .inl (cJ, 6, (.inr (.inl (fun _ => 0)))))]) (w1 := []) hP hD [] [0, 1, 2, 3, 4, 5] rfl rfl (by decide) (by decide) hk1 hFc hP1 hD1
  generalize H1 = H at hP hS ⊢
  have hP : va_P (dC, dI) vwCl [(x0, .inr (10, [.ref xTape, .ref xReader, .ref xBag, .ref xBld, .ref xAng, .ref xSum, .ref xPik, .int 0, .ref xHan, .ref xIns, .ref xShr, .ref xSta, .ref xTur])), (xSum, .inr (8, [.ref sM, .ref sP, .ref sA, .int 0])), (xHan, .inr (3, [.int 0, .int 0, .int 0, .ref hH, .ref hR, .ref hT, .ref hM])), (hH, .inl (cI, 7, (.inl (fun _ => 0)))), (hT, .inl (cJ, 7, (.inr (.inl (fun _ => 0))))), (hM, .inl (cJ, 6, (.inr (.inl (fun _ => 0)))))] H := hP
  have hD : va_D A [(x0, .inr (10, [.ref xTape, .ref xReader, .ref xBag, .ref xBld, .ref xAng, .ref xSum, .ref xPik, .int 0, .ref xHan, .ref xIns, .ref xShr, .ref xSta, .ref xTur])), (xSum, .inr (8, [.ref sM, .ref sP, .ref sA, .int 0])), (xHan, .inr (3, [.int 0, .int 0, .int 0, .ref hH, .ref hR, .ref hT, .ref hM])), (hH, .inl (cI, 7, (.inl (fun _ => 0)))), (hT, .inl (cJ, 7, (.inr (.inl (fun _ => 0))))), (hM, .inl (cJ, 6, (.inr (.inl (fun _ => 0)))))] := hD
  rcases hw with ⟨rfl, k_2⟩ | ⟨rfl, k_2⟩
  · refine lv_if_eq (tgt := 14) hx hb dX10_relationOf_4 (by decide) (fun _ => ?_) (fun c => absurd (by decide) c)
    refine lv_ldc (v := (-1000000)) hx hb hown (hts (.constant RX10 140 (-1000000)) (by decide +kernel)) dX10_relationOf_14 ?_
    refine W.widen (k := 0) (n := 0) (Nat.le_of_ble_eq_true rfl) (Nat.le_of_ble_eq_true rfl) ?_
    exact W.iret (v := (-1000000)) hx hb hr (fun t ht hW => ⟨⟨(-1000000), (), rfl, (absurd (by decide) k_2), trivial⟩, hS.F ht⟩) hS.2.2 dX10_relationOf_16
  · refine lv_if_eq (tgt := 14) hx hb dX10_relationOf_4 (by decide) (fun c => absurd c (by decide)) (fun _ => ?_)
    refine lv_iload_n hx hb dX10_relationOf_7 rfl (lv_at hl 2 rfl) ?_
    have hPc := hP.sub (ws' := []) [] rfl
    have hDc := hD.sub (ws' := []) [] (by decide) rfl
    have hFc := va_free (wc := []) hD hS hA [] rfl
    refine va_calli (va_runS (As := [.int p1]) (rest := []) ⟨hx, hb, hml, hown, hts⟩ (c_X10_isSolid l dC dI cB cI cJ H.size p1) (va_cwS 1 hts gX10_relationOf_X10_isSolid rfl rfl rfl (by decide +kernel) ⟨Nat.le_of_ble_eq_true rfl, Nat.le_of_ble_eq_true rfl⟩) ⟨fun a U g mk q => by obtain ⟨q0, q1, qP, qK, qD⟩ := q; exact ⟨q0, q1, qP, va_K.moved (u := U) (U := U.calling g mk a) (Vm.Alike.refl U.vm) qK, qD⟩, fun U hU hW => ⟨rfl, by rw [hU], by rw [hU]; exact hPc, va_K.moved hW.alike hK, hDc.weaken (fun _ _ _ _ => trivial)⟩⟩ rfl rfl hl.1 rfl (lv_room (Nat.le_of_ble_eq_true rfl)) dX10_relationOf_8 ⟨Nat.le_of_ble_eq_true rfl, Nat.le_of_ble_eq_true rfl⟩) hS (fun q _ h => hFc q h) hFc (fun r_3 u t H1 locs ht hvm hw hB hz1 hk1 hS => ?_)
    have hP1 : va_P (dC, dI) vwCl [] H1 := fun k q h => by simp at h
    have hD1 : va_D (va_A [] H.size) [] := ⟨fun i j p q h => by simp at h, fun k q h => by simp at h⟩
    obtain ⟨hP, hD⟩ := va_join (wr := [(x0, .inr (10, [.ref xTape, .ref xReader, .ref xBag, .ref xBld, .ref xAng, .ref xSum, .ref xPik, .int 0, .ref xHan, .ref xIns, .ref xShr, .ref xSta, .ref xTur])), (xSum, .inr (8, [.ref sM, .ref sP, .ref sA, .int 0])), (xHan, .inr (3, [.int 0, .int 0, .int 0, .ref hH, .ref hR, .ref hT, .ref hM])), (hH, .inl (cI, 7, (.inl (fun _ => 0)))), (hT, .inl (cJ, 7, (.inr (.inl (fun _ => 0))))), (hM, .inl (cJ, 6, (.inr (.inl (fun _ => 0)))))]) (w1 := []) hP hD [] [0, 1, 2, 3, 4, 5] rfl rfl (by decide) (by decide) hk1 hFc hP1 hD1
    generalize H1 = H at hP hS ⊢
    have hP : va_P (dC, dI) vwCl [(x0, .inr (10, [.ref xTape, .ref xReader, .ref xBag, .ref xBld, .ref xAng, .ref xSum, .ref xPik, .int 0, .ref xHan, .ref xIns, .ref xShr, .ref xSta, .ref xTur])), (xSum, .inr (8, [.ref sM, .ref sP, .ref sA, .int 0])), (xHan, .inr (3, [.int 0, .int 0, .int 0, .ref hH, .ref hR, .ref hT, .ref hM])), (hH, .inl (cI, 7, (.inl (fun _ => 0)))), (hT, .inl (cJ, 7, (.inr (.inl (fun _ => 0))))), (hM, .inl (cJ, 6, (.inr (.inl (fun _ => 0)))))] H := hP
    have hD : va_D A [(x0, .inr (10, [.ref xTape, .ref xReader, .ref xBag, .ref xBld, .ref xAng, .ref xSum, .ref xPik, .int 0, .ref xHan, .ref xIns, .ref xShr, .ref xSta, .ref xTur])), (xSum, .inr (8, [.ref sM, .ref sP, .ref sA, .int 0])), (xHan, .inr (3, [.int 0, .int 0, .int 0, .ref hH, .ref hR, .ref hT, .ref hM])), (hH, .inl (cI, 7, (.inl (fun _ => 0)))), (hT, .inl (cJ, 7, (.inr (.inl (fun _ => 0))))), (hM, .inl (cJ, 6, (.inr (.inl (fun _ => 0)))))] := hD
    rcases hw with ⟨rfl, k_4⟩ | ⟨rfl, k_4⟩
    · refine lv_if_ne (tgt := 17) hx hb dX10_relationOf_11 (by decide) (fun c => absurd (by decide) c) (fun _ => ?_)
      refine lv_ldc (v := (-1000000)) hx hb hown (hts (.constant RX10 140 (-1000000)) (by decide +kernel)) dX10_relationOf_14 ?_
      refine W.widen (k := 0) (n := 0) (Nat.le_of_ble_eq_true rfl) (Nat.le_of_ble_eq_true rfl) ?_
      exact W.iret (v := (-1000000)) hx hb hr (fun t ht hW => ⟨⟨(-1000000), (), rfl, (by unfold sp_rel; split <;> rfl), trivial⟩, hS.F ht⟩) hS.2.2 dX10_relationOf_16
    · refine lv_if_ne (tgt := 17) hx hb dX10_relationOf_11 (by decide) (fun _ => ?_) (fun c => absurd c (by decide))
      refine lv_aload_n hx hb dX10_relationOf_17 rfl (lv_at hl 0 rfl) ?_
      refine lv_iload_n hx hb dX10_relationOf_18 rfl (lv_at hl 1 rfl) ?_
      have hPc := hP.sub (ws' := [(x0, .inr (10, [.ref xTape, .ref xReader, .ref xBag, .ref xBld, .ref xAng, .ref xSum, .ref xPik, .int 0, .ref xHan, .ref xIns, .ref xShr, .ref xSta, .ref xTur])), (xHan, .inr (3, [.int 0, .int 0, .int 0, .ref hH, .ref hR, .ref hT, .ref hM]))]) [0, 2] rfl
      have hDc := hD.sub (ws' := [(x0, .inr (10, [.ref xTape, .ref xReader, .ref xBag, .ref xBld, .ref xAng, .ref xSum, .ref xPik, .int 0, .ref xHan, .ref xIns, .ref xShr, .ref xSta, .ref xTur])), (xHan, .inr (3, [.int 0, .int 0, .int 0, .ref hH, .ref hR, .ref hT, .ref hM]))]) [0, 2] (by decide) rfl
      have hFc := va_free (wc := [(x0, .inr (10, [.ref xTape, .ref xReader, .ref xBag, .ref xBld, .ref xAng, .ref xSum, .ref xPik, .int 0, .ref xHan, .ref xIns, .ref xShr, .ref xSta, .ref xTur])), (xHan, .inr (3, [.int 0, .int 0, .int 0, .ref hH, .ref hR, .ref hT, .ref hM]))]) hD hS hA [0, 2] rfl
      refine va_callv (va_runV (As := [.int 0]) (rest := []) ⟨hx, hb, hml, hown, hts⟩ (c_X10_hangSolids_0 l dC dI cB cI cJ H.size x0 xTape xReader xBag xBld xAng xSum xPik xHan xIns xShr xSta xTur hH hR hT hM) (cwV 1 hts gX10_relationOf_X10_hangSolids rfl rfl rfl (by decide +kernel) ⟨Nat.le_of_ble_eq_true rfl, Nat.le_of_ble_eq_true rfl⟩) ⟨fun a U g mk q => by obtain ⟨q0, q1, qP, qK, qD⟩ := q; exact ⟨q0, q1, qP, va_K.moved (u := U) (U := U.calling g mk a) (Vm.Alike.refl U.vm) qK, qD⟩, va_recv hK hP (ci := 10) (q0 := 0) rfl rfl, fun U hU hW => ⟨rfl, by rw [hU], by rw [hU]; exact hPc, va_K.moved hW.alike hK, hDc.weaken (fun _ _ _ _ => trivial)⟩⟩ rfl rfl hl.1 rfl (lv_room (Nat.le_of_ble_eq_true rfl)) dX10_relationOf_19 ⟨Nat.le_of_ble_eq_true rfl, Nat.le_of_ble_eq_true rfl⟩) hS (fun q _ h => hFc q h) hFc (fun u t H1 locs ht hvm hw hB hz1 hk1 hS => ?_)
      obtain ⟨hP1, hK1, hD1⟩ := hB
      rw [ht] at hP1
      obtain ⟨hP, hD⟩ := va_join (wr := [(xSum, .inr (8, [.ref sM, .ref sP, .ref sA, .int 0])), (hH, .inl (cI, 7, (.inl (fun _ => 0)))), (hT, .inl (cJ, 7, (.inr (.inl (fun _ => 0))))), (hM, .inl (cJ, 6, (.inr (.inl (fun _ => 0)))))]) (w1 := [(x0, .inr (10, [.ref xTape, .ref xReader, .ref xBag, .ref xBld, .ref xAng, .ref xSum, .ref xPik, .int 0, .ref xHan, .ref xIns, .ref xShr, .ref xSta, .ref xTur])), (xHan, .inr (3, [.int 0, .int 0, .int 0, .ref hH, .ref hR, .ref hT, .ref hM]))]) hP hD [0, 2] [1, 3, 4, 5] rfl rfl (by decide) (by decide) hk1 hFc hP1 hD1
      generalize H1 = H at hP hS ⊢
      have hP : va_P (dC, dI) vwCl [(xSum, .inr (8, [.ref sM, .ref sP, .ref sA, .int 0])), (hH, .inl (cI, 7, (.inl (fun _ => 0)))), (hT, .inl (cJ, 7, (.inr (.inl (fun _ => 0))))), (hM, .inl (cJ, 6, (.inr (.inl (fun _ => 0))))), (x0, .inr (10, [.ref xTape, .ref xReader, .ref xBag, .ref xBld, .ref xAng, .ref xSum, .ref xPik, .int 0, .ref xHan, .ref xIns, .ref xShr, .ref xSta, .ref xTur])), (xHan, .inr (3, [.int 0, .int 0, .int 0, .ref hH, .ref hR, .ref hT, .ref hM]))] H := hP
      have hD : va_D A [(xSum, .inr (8, [.ref sM, .ref sP, .ref sA, .int 0])), (hH, .inl (cI, 7, (.inl (fun _ => 0)))), (hT, .inl (cJ, 7, (.inr (.inl (fun _ => 0))))), (hM, .inl (cJ, 6, (.inr (.inl (fun _ => 0))))), (x0, .inr (10, [.ref xTape, .ref xReader, .ref xBag, .ref xBld, .ref xAng, .ref xSum, .ref xPik, .int 0, .ref xHan, .ref xIns, .ref xShr, .ref xSta, .ref xTur])), (xHan, .inr (3, [.int 0, .int 0, .int 0, .ref hH, .ref hR, .ref hT, .ref hM]))] := hD
      refine lv_aload_n hx hb dX10_relationOf_22 rfl (lv_at hl 0 rfl) ?_
      refine va_get (D := (dC, dI)) (ci := 10) (v := .ref xHan) (C := RX10) (T := TX10) (N := 13) hx hb hts hiX10 hown hK hP 4 rfl rfl 8 (by decide) (hts (.fieldLink RX10 61 "ScissorsTable" "hang" "LScissorsTable$Hang;") (by decide +kernel)) (fun _ h9 => h9) rfl dX10_relationOf_23 ?_
      have hPc := hP.sub (ws' := [(xHan, .inr (3, [.int 0, .int 0, .int 0, .ref hH, .ref hR, .ref hT, .ref hM])), (hM, .inl (cJ, 6, (.inr (.inl (fun _ => 0)))))]) [5, 3] rfl
      have hDc := hD.sub (ws' := [(xHan, .inr (3, [.int 0, .int 0, .int 0, .ref hH, .ref hR, .ref hT, .ref hM])), (hM, .inl (cJ, 6, (.inr (.inl (fun _ => 0)))))]) [5, 3] (by decide) rfl
      have hFc := va_free (wc := [(xHan, .inr (3, [.int 0, .int 0, .int 0, .ref hH, .ref hR, .ref hT, .ref hM])), (hM, .inl (cJ, 6, (.inr (.inl (fun _ => 0)))))]) hD hS hA [5, 3] rfl
      refine va_calli (va_runV (As := []) (rest := []) ⟨hx, hb, hml, hown, hts⟩ (c_X3_canTell_t0 l dC dI cB cI cJ H.size xHan hH hR hT hM) (cwV 0 hts gX10_relationOf_X3_canTell rfl rfl rfl (by decide +kernel) ⟨Nat.le_of_ble_eq_true rfl, Nat.le_of_ble_eq_true rfl⟩) ⟨fun a U g mk q => by obtain ⟨q0, q1, qP, qK, qD⟩ := q; exact ⟨q0, q1, qP, va_K.moved (u := U) (U := U.calling g mk a) (Vm.Alike.refl U.vm) qK, qD⟩, va_recv hK hP (ci := 3) (q0 := 5) rfl rfl, fun U hU hW => ⟨rfl, by rw [hU], by rw [hU]; exact hPc, va_K.moved hW.alike hK, hDc.weaken (fun _ _ _ _ => trivial)⟩⟩ rfl rfl hl.1 rfl (lv_room (Nat.le_of_ble_eq_true rfl)) dX10_relationOf_26 ⟨Nat.le_of_ble_eq_true rfl, Nat.le_of_ble_eq_true rfl⟩) hS (fun q _ h => hFc q h) hFc (fun r_5 u t H1 locs ht hvm hw hB hz1 hk1 hS => ?_)
      obtain ⟨hP1, hK1, hD1⟩ := hB
      rw [ht] at hP1
      obtain ⟨hP, hD⟩ := va_join (wr := [(xSum, .inr (8, [.ref sM, .ref sP, .ref sA, .int 0])), (hH, .inl (cI, 7, (.inl (fun _ => 0)))), (hT, .inl (cJ, 7, (.inr (.inl (fun _ => 0))))), (x0, .inr (10, [.ref xTape, .ref xReader, .ref xBag, .ref xBld, .ref xAng, .ref xSum, .ref xPik, .int 0, .ref xHan, .ref xIns, .ref xShr, .ref xSta, .ref xTur]))]) (w1 := [(xHan, .inr (3, [.int 0, .int 0, .int 0, .ref hH, .ref hR, .ref hT, .ref hM])), (hM, .inl (cJ, 6, (.inr (.inl (fun _ => 0)))))]) hP hD [5, 3] [0, 1, 2, 4] rfl rfl (by decide) (by decide) hk1 hFc hP1 hD1
      generalize H1 = H at hP hS ⊢
      have hP : va_P (dC, dI) vwCl [(xSum, .inr (8, [.ref sM, .ref sP, .ref sA, .int 0])), (hH, .inl (cI, 7, (.inl (fun _ => 0)))), (hT, .inl (cJ, 7, (.inr (.inl (fun _ => 0))))), (x0, .inr (10, [.ref xTape, .ref xReader, .ref xBag, .ref xBld, .ref xAng, .ref xSum, .ref xPik, .int 0, .ref xHan, .ref xIns, .ref xShr, .ref xSta, .ref xTur])), (xHan, .inr (3, [.int 0, .int 0, .int 0, .ref hH, .ref hR, .ref hT, .ref hM])), (hM, .inl (cJ, 6, (.inr (.inl (fun _ => 0)))))] H := hP
      have hD : va_D A [(xSum, .inr (8, [.ref sM, .ref sP, .ref sA, .int 0])), (hH, .inl (cI, 7, (.inl (fun _ => 0)))), (hT, .inl (cJ, 7, (.inr (.inl (fun _ => 0))))), (x0, .inr (10, [.ref xTape, .ref xReader, .ref xBag, .ref xBld, .ref xAng, .ref xSum, .ref xPik, .int 0, .ref xHan, .ref xIns, .ref xShr, .ref xSta, .ref xTur])), (xHan, .inr (3, [.int 0, .int 0, .int 0, .ref hH, .ref hR, .ref hT, .ref hM])), (hM, .inl (cJ, 6, (.inr (.inl (fun _ => 0)))))] := hD
      have hr_5 := hw
      obtain rfl : r_5 = 0 := hr_5
      refine lv_if_ne (tgt := 35) hx hb dX10_relationOf_29 (by decide) (fun c => absurd (by decide) c) (fun _ => ?_)
      refine lv_ldc (v := (-1000000)) hx hb hown (hts (.constant RX10 140 (-1000000)) (by decide +kernel)) dX10_relationOf_32 ?_
      refine W.widen (k := 0) (n := 0) (Nat.le_of_ble_eq_true rfl) (Nat.le_of_ble_eq_true rfl) ?_
      exact W.iret (v := (-1000000)) hx hb hr (fun t ht hW => ⟨⟨(-1000000), (), rfl, (by unfold sp_rel; split <;> rfl), trivial⟩, hS.F ht⟩) hS.2.2 dX10_relationOf_34
set_option maxHeartbeats 4000000 in
set_option maxRecDepth 100000 in
theorem c_X10_relationOf_1 (l : Launch) (dC : Nat → ClassId) (dI : Nat → Nat → Nat) (cB cI cJ : ClassId) (sz : Nat) (x0 xTape xReader xBag xBld xAng xSum xPik xHan xIns xShr xSta xTur sM sP sA hH hR hT hM : Nat) (p1 : Int32) : Met l yX10_relationOf wsX10_relationOf ({ frames := 12, cells := 0, slots := 0, locals := 400 }) (va_Pc [.ref x0, .int 1, .int p1] (fun U => U.heap.size = sz ∧ va_P (dC, dI) vwCl [(x0, .inr (10, [.ref xTape, .ref xReader, .ref xBag, .ref xBld, .ref xAng, .ref xSum, .ref xPik, .int 0, .ref xHan, .ref xIns, .ref xShr, .ref xSta, .ref xTur])), (xSum, .inr (8, [.ref sM, .ref sP, .ref sA, .int 0])), (xHan, .inr (3, [.int 0, .int 0, .int 0, .ref hH, .ref hR, .ref hT, .ref hM])), (hH, .inl (cI, 7, (.inl (fun _ => 0)))), (hT, .inl (cJ, 7, (.inr (.inl (fun _ => 0))))), (hM, .inl (cJ, 6, (.inr (.inl (fun _ => 0)))))] U.heap ∧ va_K (dC, dI) vwCl [(cB, .byte), (cI, .int), (cJ, .long)] U ∧ va_D (fun _ => True) [(x0, .inr (10, [.ref xTape, .ref xReader, .ref xBag, .ref xBld, .ref xAng, .ref xSum, .ref xPik, .int 0, .ref xHan, .ref xIns, .ref xShr, .ref xSta, .ref xTur])), (xSum, .inr (8, [.ref sM, .ref sP, .ref sA, .int 0])), (xHan, .inr (3, [.int 0, .int 0, .int 0, .ref hH, .ref hR, .ref hT, .ref hM])), (hH, .inl (cI, 7, (.inl (fun _ => 0)))), (hT, .inl (cJ, 7, (.inr (.inl (fun _ => 0))))), (hM, .inl (cJ, 6, (.inr (.inl (fun _ => 0)))))] ∧ va_Nw (.methodLinkNest RX3 62 yX10_gcd "ScissorsTable") U)) (va_Qi (fun (r : Int32) (_ : Unit) => r = sp_rel 1 p1) (fun _ _ => True) (va_A [(x0, .inr (10, [.ref xTape, .ref xReader, .ref xBag, .ref xBld, .ref xAng, .ref xSum, .ref xPik, .int 0, .ref xHan, .ref xIns, .ref xShr, .ref xSta, .ref xTur])), (xSum, .inr (8, [.ref sM, .ref sP, .ref sA, .int 0])), (xHan, .inr (3, [.int 0, .int 0, .int 0, .ref hH, .ref hR, .ref hT, .ref hM])), (hH, .inl (cI, 7, (.inl (fun _ => 0)))), (hT, .inl (cJ, 7, (.inr (.inl (fun _ => 0))))), (hM, .inl (cJ, 6, (.inr (.inl (fun _ => 0)))))] sz)) 0 0 (va_A [(x0, .inr (10, [.ref xTape, .ref xReader, .ref xBag, .ref xBld, .ref xAng, .ref xSum, .ref xPik, .int 0, .ref xHan, .ref xIns, .ref xShr, .ref xSta, .ref xTur])), (xSum, .inr (8, [.ref sM, .ref sP, .ref sA, .int 0])), (xHan, .inr (3, [.int 0, .int 0, .int 0, .ref hH, .ref hR, .ref hT, .ref hM])), (hH, .inl (cI, 7, (.inl (fun _ => 0)))), (hT, .inl (cJ, 7, (.inr (.inl (fun _ => 0))))), (hM, .inl (cJ, 6, (.inr (.inl (fun _ => 0)))))] sz) := by
  refine Met.ofW (cc := cX10_relationOf) (maxL := 3) (ret := (some .int)) (by decide) rfl ?_
  intro p e s m args below meth c s₁ B hml hv
  obtain ⟨rfl, hsz, hP, hK, hD0, hN0⟩ := hv
  have hx := B.exec
  have hb := B.bytes
  have hr := B.returns
  have hts := atoms_spec (ws := wsX10_relationOf) B.pre
  have hown : s.vm.findClass RX10 = some m.cls := findClass_of_methodNamed B.named
  have hlocks := B.notSynchronized
  have hiX10 : ∀ w ∈ u_ws RX10 TX10 13, w ∈ wsX10_relationOf := by decide +kernel
  subst hsz
  have hD := hD0.self (sz := s.heap.size)
  generalize hAe : va_A [(x0, .inr (10, [.ref xTape, .ref xReader, .ref xBag, .ref xBld, .ref xAng, .ref xSum, .ref xPik, .int 0, .ref xHan, .ref xIns, .ref xShr, .ref xSta, .ref xTur])), (xSum, .inr (8, [.ref sM, .ref sP, .ref sA, .int 0])), (xHan, .inr (3, [.int 0, .int 0, .int 0, .ref hH, .ref hR, .ref hT, .ref hM])), (hH, .inl (cI, 7, (.inl (fun _ => 0)))), (hT, .inl (cJ, 7, (.inr (.inl (fun _ => 0))))), (hM, .inl (cJ, 6, (.inr (.inl (fun _ => 0)))))] s.heap.size = A at hD ⊢
  have hA : ∀ q : Nat, s.heap.size ≤ q → A q := fun q h => by rw [← hAe]; exact Or.inr h
  have hS : va_S A s.heap s.heap [] := va_S.rf
  have hP : va_P (dC, dI) vwCl [(x0, .inr (10, [.ref xTape, .ref xReader, .ref xBag, .ref xBld, .ref xAng, .ref xSum, .ref xPik, .int 0, .ref xHan, .ref xIns, .ref xShr, .ref xSta, .ref xTur])), (xSum, .inr (8, [.ref sM, .ref sP, .ref sA, .int 0])), (xHan, .inr (3, [.int 0, .int 0, .int 0, .ref hH, .ref hR, .ref hT, .ref hM])), (hH, .inl (cI, 7, (.inl (fun _ => 0)))), (hT, .inl (cJ, 7, (.inr (.inl (fun _ => 0))))), (hM, .inl (cJ, 6, (.inr (.inl (fun _ => 0)))))] s.heap := hP
  have hl := lv_entry ([.ref x0, .int 1, .int p1]) (n := 3) (Nat.le_of_ble_eq_true rfl)
  rw [lg_entry_eq]
  generalize (lg_sl ([.ref x0, .int 1, .int p1]) ++ List.replicate (3 - (lg_sl ([.ref x0, .int 1, .int p1])).length) Slot.unset).toArray = ls at hl ⊢
  have hl : lv_has ls 3 [(0, .ref x0), (1, .int 1), (2, .int p1)] := hl
  refine lv_iload_n hx hb dX10_relationOf_0 rfl (lv_at hl 1 rfl) ?_
  have hPc := hP.sub (ws' := []) [] rfl
  have hDc := hD.sub (ws' := []) [] (by decide) rfl
  have hFc := va_free (wc := []) hD hS hA [] rfl
  refine va_calli (va_runS (As := [.int 1]) (rest := []) ⟨hx, hb, hml, hown, hts⟩ (c_X10_isSetOfSolids l dC dI cB cI cJ s.heap.size 1) (va_cwS 1 hts gX10_relationOf_X10_isSetOfSolids rfl rfl rfl (by decide +kernel) ⟨Nat.le_of_ble_eq_true rfl, Nat.le_of_ble_eq_true rfl⟩) ⟨fun a U g mk q => by obtain ⟨q0, q1, qP, qK, qD⟩ := q; exact ⟨q0, q1, qP, va_K.moved (u := U) (U := U.calling g mk a) (Vm.Alike.refl U.vm) qK, qD⟩, fun U hU hW => ⟨rfl, by rw [hU], by rw [hU]; exact hPc, va_K.moved hW.alike hK, hDc.weaken (fun _ _ _ _ => trivial)⟩⟩ rfl rfl hl.1 rfl (lv_room (Nat.le_of_ble_eq_true rfl)) dX10_relationOf_1 ⟨Nat.le_of_ble_eq_true rfl, Nat.le_of_ble_eq_true rfl⟩) hS (fun q _ h => hFc q h) hFc (fun r_1 u t H1 locs ht hvm hw hB hz1 hk1 hS => ?_)
  have hP1 : va_P (dC, dI) vwCl [] H1 := fun k q h => by simp at h
  have hD1 : va_D (va_A [] s.heap.size) [] := ⟨fun i j p q h => by simp at h, fun k q h => by simp at h⟩
  obtain ⟨hP, hD⟩ := va_join (wr := [(x0, .inr (10, [.ref xTape, .ref xReader, .ref xBag, .ref xBld, .ref xAng, .ref xSum, .ref xPik, .int 0, .ref xHan, .ref xIns, .ref xShr, .ref xSta, .ref xTur])), (xSum, .inr (8, [.ref sM, .ref sP, .ref sA, .int 0])), (xHan, .inr (3, [.int 0, .int 0, .int 0, .ref hH, .ref hR, .ref hT, .ref hM])), (hH, .inl (cI, 7, (.inl (fun _ => 0)))), (hT, .inl (cJ, 7, (.inr (.inl (fun _ => 0))))), (hM, .inl (cJ, 6, (.inr (.inl (fun _ => 0)))))]) (w1 := []) hP hD [] [0, 1, 2, 3, 4, 5] rfl rfl (by decide) (by decide) hk1 hFc hP1 hD1
  generalize H1 = H at hP hS ⊢
  have hP : va_P (dC, dI) vwCl [(x0, .inr (10, [.ref xTape, .ref xReader, .ref xBag, .ref xBld, .ref xAng, .ref xSum, .ref xPik, .int 0, .ref xHan, .ref xIns, .ref xShr, .ref xSta, .ref xTur])), (xSum, .inr (8, [.ref sM, .ref sP, .ref sA, .int 0])), (xHan, .inr (3, [.int 0, .int 0, .int 0, .ref hH, .ref hR, .ref hT, .ref hM])), (hH, .inl (cI, 7, (.inl (fun _ => 0)))), (hT, .inl (cJ, 7, (.inr (.inl (fun _ => 0))))), (hM, .inl (cJ, 6, (.inr (.inl (fun _ => 0)))))] H := hP
  have hD : va_D A [(x0, .inr (10, [.ref xTape, .ref xReader, .ref xBag, .ref xBld, .ref xAng, .ref xSum, .ref xPik, .int 0, .ref xHan, .ref xIns, .ref xShr, .ref xSta, .ref xTur])), (xSum, .inr (8, [.ref sM, .ref sP, .ref sA, .int 0])), (xHan, .inr (3, [.int 0, .int 0, .int 0, .ref hH, .ref hR, .ref hT, .ref hM])), (hH, .inl (cI, 7, (.inl (fun _ => 0)))), (hT, .inl (cJ, 7, (.inr (.inl (fun _ => 0))))), (hM, .inl (cJ, 6, (.inr (.inl (fun _ => 0)))))] := hD
  rcases hw with ⟨rfl, k_2⟩ | ⟨rfl, k_2⟩
  · refine lv_if_eq (tgt := 14) hx hb dX10_relationOf_4 (by decide) (fun _ => ?_) (fun c => absurd (by decide) c)
    refine lv_ldc (v := (-1000000)) hx hb hown (hts (.constant RX10 140 (-1000000)) (by decide +kernel)) dX10_relationOf_14 ?_
    refine W.widen (k := 0) (n := 0) (Nat.le_of_ble_eq_true rfl) (Nat.le_of_ble_eq_true rfl) ?_
    exact W.iret (v := (-1000000)) hx hb hr (fun t ht hW => ⟨⟨(-1000000), (), rfl, (absurd (by decide) k_2), trivial⟩, hS.F ht⟩) hS.2.2 dX10_relationOf_16
  · refine lv_if_eq (tgt := 14) hx hb dX10_relationOf_4 (by decide) (fun c => absurd c (by decide)) (fun _ => ?_)
    refine lv_iload_n hx hb dX10_relationOf_7 rfl (lv_at hl 2 rfl) ?_
    have hPc := hP.sub (ws' := []) [] rfl
    have hDc := hD.sub (ws' := []) [] (by decide) rfl
    have hFc := va_free (wc := []) hD hS hA [] rfl
    refine va_calli (va_runS (As := [.int p1]) (rest := []) ⟨hx, hb, hml, hown, hts⟩ (c_X10_isSolid l dC dI cB cI cJ H.size p1) (va_cwS 1 hts gX10_relationOf_X10_isSolid rfl rfl rfl (by decide +kernel) ⟨Nat.le_of_ble_eq_true rfl, Nat.le_of_ble_eq_true rfl⟩) ⟨fun a U g mk q => by obtain ⟨q0, q1, qP, qK, qD⟩ := q; exact ⟨q0, q1, qP, va_K.moved (u := U) (U := U.calling g mk a) (Vm.Alike.refl U.vm) qK, qD⟩, fun U hU hW => ⟨rfl, by rw [hU], by rw [hU]; exact hPc, va_K.moved hW.alike hK, hDc.weaken (fun _ _ _ _ => trivial)⟩⟩ rfl rfl hl.1 rfl (lv_room (Nat.le_of_ble_eq_true rfl)) dX10_relationOf_8 ⟨Nat.le_of_ble_eq_true rfl, Nat.le_of_ble_eq_true rfl⟩) hS (fun q _ h => hFc q h) hFc (fun r_3 u t H1 locs ht hvm hw hB hz1 hk1 hS => ?_)
    have hP1 : va_P (dC, dI) vwCl [] H1 := fun k q h => by simp at h
    have hD1 : va_D (va_A [] H.size) [] := ⟨fun i j p q h => by simp at h, fun k q h => by simp at h⟩
    obtain ⟨hP, hD⟩ := va_join (wr := [(x0, .inr (10, [.ref xTape, .ref xReader, .ref xBag, .ref xBld, .ref xAng, .ref xSum, .ref xPik, .int 0, .ref xHan, .ref xIns, .ref xShr, .ref xSta, .ref xTur])), (xSum, .inr (8, [.ref sM, .ref sP, .ref sA, .int 0])), (xHan, .inr (3, [.int 0, .int 0, .int 0, .ref hH, .ref hR, .ref hT, .ref hM])), (hH, .inl (cI, 7, (.inl (fun _ => 0)))), (hT, .inl (cJ, 7, (.inr (.inl (fun _ => 0))))), (hM, .inl (cJ, 6, (.inr (.inl (fun _ => 0)))))]) (w1 := []) hP hD [] [0, 1, 2, 3, 4, 5] rfl rfl (by decide) (by decide) hk1 hFc hP1 hD1
    generalize H1 = H at hP hS ⊢
    have hP : va_P (dC, dI) vwCl [(x0, .inr (10, [.ref xTape, .ref xReader, .ref xBag, .ref xBld, .ref xAng, .ref xSum, .ref xPik, .int 0, .ref xHan, .ref xIns, .ref xShr, .ref xSta, .ref xTur])), (xSum, .inr (8, [.ref sM, .ref sP, .ref sA, .int 0])), (xHan, .inr (3, [.int 0, .int 0, .int 0, .ref hH, .ref hR, .ref hT, .ref hM])), (hH, .inl (cI, 7, (.inl (fun _ => 0)))), (hT, .inl (cJ, 7, (.inr (.inl (fun _ => 0))))), (hM, .inl (cJ, 6, (.inr (.inl (fun _ => 0)))))] H := hP
    have hD : va_D A [(x0, .inr (10, [.ref xTape, .ref xReader, .ref xBag, .ref xBld, .ref xAng, .ref xSum, .ref xPik, .int 0, .ref xHan, .ref xIns, .ref xShr, .ref xSta, .ref xTur])), (xSum, .inr (8, [.ref sM, .ref sP, .ref sA, .int 0])), (xHan, .inr (3, [.int 0, .int 0, .int 0, .ref hH, .ref hR, .ref hT, .ref hM])), (hH, .inl (cI, 7, (.inl (fun _ => 0)))), (hT, .inl (cJ, 7, (.inr (.inl (fun _ => 0))))), (hM, .inl (cJ, 6, (.inr (.inl (fun _ => 0)))))] := hD
    rcases hw with ⟨rfl, k_4⟩ | ⟨rfl, k_4⟩
    · refine lv_if_ne (tgt := 17) hx hb dX10_relationOf_11 (by decide) (fun c => absurd (by decide) c) (fun _ => ?_)
      refine lv_ldc (v := (-1000000)) hx hb hown (hts (.constant RX10 140 (-1000000)) (by decide +kernel)) dX10_relationOf_14 ?_
      refine W.widen (k := 0) (n := 0) (Nat.le_of_ble_eq_true rfl) (Nat.le_of_ble_eq_true rfl) ?_
      exact W.iret (v := (-1000000)) hx hb hr (fun t ht hW => ⟨⟨(-1000000), (), rfl, (show (-1000000 : Int32) = sp_rel 1 p1 from (by unfold sp_rel; rw [if_neg (fun h9 => k_4 h9.2)])), trivial⟩, hS.F ht⟩) hS.2.2 dX10_relationOf_16
    · refine lv_if_ne (tgt := 17) hx hb dX10_relationOf_11 (by decide) (fun _ => ?_) (fun c => absurd c (by decide))
      refine lv_aload_n hx hb dX10_relationOf_17 rfl (lv_at hl 0 rfl) ?_
      refine lv_iload_n hx hb dX10_relationOf_18 rfl (lv_at hl 1 rfl) ?_
      have hPc := hP.sub (ws' := [(x0, .inr (10, [.ref xTape, .ref xReader, .ref xBag, .ref xBld, .ref xAng, .ref xSum, .ref xPik, .int 0, .ref xHan, .ref xIns, .ref xShr, .ref xSta, .ref xTur])), (xSum, .inr (8, [.ref sM, .ref sP, .ref sA, .int 0])), (xHan, .inr (3, [.int 0, .int 0, .int 0, .ref hH, .ref hR, .ref hT, .ref hM])), (hH, .inl (cI, 7, (.inl (fun _ => 0)))), (hT, .inl (cJ, 7, (.inr (.inl (fun _ => 0))))), (hM, .inl (cJ, 6, (.inr (.inl (fun _ => 0)))))]) [0, 1, 2, 3, 4, 5] rfl
      have hDc := hD.sub (ws' := [(x0, .inr (10, [.ref xTape, .ref xReader, .ref xBag, .ref xBld, .ref xAng, .ref xSum, .ref xPik, .int 0, .ref xHan, .ref xIns, .ref xShr, .ref xSta, .ref xTur])), (xSum, .inr (8, [.ref sM, .ref sP, .ref sA, .int 0])), (xHan, .inr (3, [.int 0, .int 0, .int 0, .ref hH, .ref hR, .ref hT, .ref hM])), (hH, .inl (cI, 7, (.inl (fun _ => 0)))), (hT, .inl (cJ, 7, (.inr (.inl (fun _ => 0))))), (hM, .inl (cJ, 6, (.inr (.inl (fun _ => 0)))))]) [0, 1, 2, 3, 4, 5] (by decide) rfl
      have hFc := va_free (wc := [(x0, .inr (10, [.ref xTape, .ref xReader, .ref xBag, .ref xBld, .ref xAng, .ref xSum, .ref xPik, .int 0, .ref xHan, .ref xIns, .ref xShr, .ref xSta, .ref xTur])), (xSum, .inr (8, [.ref sM, .ref sP, .ref sA, .int 0])), (xHan, .inr (3, [.int 0, .int 0, .int 0, .ref hH, .ref hR, .ref hT, .ref hM])), (hH, .inl (cI, 7, (.inl (fun _ => 0)))), (hT, .inl (cJ, 7, (.inr (.inl (fun _ => 0))))), (hM, .inl (cJ, 6, (.inr (.inl (fun _ => 0)))))]) hD hS hA [0, 1, 2, 3, 4, 5] rfl
      refine va_callv (va_runV (As := [.int 1]) (rest := []) ⟨hx, hb, hml, hown, hts⟩ (c_X10_hangSolids_1 l dC dI cB cI cJ H.size x0 xTape xReader xBag xBld xAng xSum xPik xHan xIns xShr xSta xTur sM sP sA hH hR hT hM (fun _ => 0) (fun _ => 0)) (cwV 1 hts gX10_relationOf_X10_hangSolids rfl rfl rfl (by decide +kernel) ⟨Nat.le_of_ble_eq_true rfl, Nat.le_of_ble_eq_true rfl⟩) ⟨fun a U g mk q => by obtain ⟨q0, q1, qP, qK, qD, qN0⟩ := q; exact ⟨q0, q1, qP, va_K.moved (u := U) (U := U.calling g mk a) (Vm.Alike.refl U.vm) qK, qD, va_Nw.same rfl rfl qN0⟩, va_recv hK hP (ci := 10) (q0 := 0) rfl rfl, fun U hU hW => ⟨rfl, by rw [hU], by rw [hU]; exact hPc, va_K.moved hW.alike hK, hDc.weaken (fun _ _ _ _ => trivial), va_Nw.warmM hW hN0⟩⟩ rfl rfl hl.1 rfl (lv_room (Nat.le_of_ble_eq_true rfl)) dX10_relationOf_19 ⟨Nat.le_of_ble_eq_true rfl, Nat.le_of_ble_eq_true rfl⟩) hS (fun q _ h => hFc q h) hFc (fun u t H1 locs ht hvm hw hB hz1 hk1 hS => ?_)
      obtain ⟨hP1, hK1, hD1⟩ := hB
      rw [ht] at hP1
      obtain ⟨hP, hD⟩ := va_join (wr := []) (w1 := [(x0, .inr (10, [.ref xTape, .ref xReader, .ref xBag, .ref xBld, .ref xAng, .ref xSum, .ref xPik, .int 0, .ref xHan, .ref xIns, .ref xShr, .ref xSta, .ref xTur])), (xHan, .inr (3, [.int 0, .int 1, .int 1, .ref hH, .ref hR, .ref hT, .ref hM])), (xSum, .inr (8, [.ref sM, .ref sP, .ref sA, .int 0])), (hH, .inl (cI, 7, (.inl (upd (fun _ => 0) (0 : Int32).toNatClampNeg 0)))), (hT, .inl (cJ, 7, (.inr (.inl (vp_updL (fun _ => 0) (0 : Int32).toNatClampNeg 1))))), (hM, .inl (cJ, 6, (.inr (.inl (vp_updL (fun _ => 0) (0 : Int32).toNatClampNeg 1)))))]) hP hD [0, 1, 2, 3, 4, 5] [] rfl rfl (by decide) (by decide) hk1 hFc hP1 hD1
      generalize H1 = H at hP hS ⊢
      have hP : va_P (dC, dI) vwCl [(x0, .inr (10, [.ref xTape, .ref xReader, .ref xBag, .ref xBld, .ref xAng, .ref xSum, .ref xPik, .int 0, .ref xHan, .ref xIns, .ref xShr, .ref xSta, .ref xTur])), (xHan, .inr (3, [.int 0, .int 1, .int 1, .ref hH, .ref hR, .ref hT, .ref hM])), (xSum, .inr (8, [.ref sM, .ref sP, .ref sA, .int 0])), (hH, .inl (cI, 7, (.inl (upd (fun _ => 0) (0 : Int32).toNatClampNeg 0)))), (hT, .inl (cJ, 7, (.inr (.inl (vp_updL (fun _ => 0) (0 : Int32).toNatClampNeg 1))))), (hM, .inl (cJ, 6, (.inr (.inl (vp_updL (fun _ => 0) (0 : Int32).toNatClampNeg 1)))))] H := hP
      have hD : va_D A [(x0, .inr (10, [.ref xTape, .ref xReader, .ref xBag, .ref xBld, .ref xAng, .ref xSum, .ref xPik, .int 0, .ref xHan, .ref xIns, .ref xShr, .ref xSta, .ref xTur])), (xHan, .inr (3, [.int 0, .int 1, .int 1, .ref hH, .ref hR, .ref hT, .ref hM])), (xSum, .inr (8, [.ref sM, .ref sP, .ref sA, .int 0])), (hH, .inl (cI, 7, (.inl (upd (fun _ => 0) (0 : Int32).toNatClampNeg 0)))), (hT, .inl (cJ, 7, (.inr (.inl (vp_updL (fun _ => 0) (0 : Int32).toNatClampNeg 1))))), (hM, .inl (cJ, 6, (.inr (.inl (vp_updL (fun _ => 0) (0 : Int32).toNatClampNeg 1)))))] := hD
      refine lv_aload_n hx hb dX10_relationOf_22 rfl (lv_at hl 0 rfl) ?_
      refine va_get (D := (dC, dI)) (ci := 10) (v := .ref xHan) (C := RX10) (T := TX10) (N := 13) hx hb hts hiX10 hown hK hP 0 rfl rfl 8 (by decide) (hts (.fieldLink RX10 61 "ScissorsTable" "hang" "LScissorsTable$Hang;") (by decide +kernel)) (fun _ h9 => h9) rfl dX10_relationOf_23 ?_
      have hPc := hP.sub (ws' := [(xHan, .inr (3, [.int 0, .int 1, .int 1, .ref hH, .ref hR, .ref hT, .ref hM])), (hM, .inl (cJ, 6, (.inr (.inl (vp_updL (fun _ => 0) (0 : Int32).toNatClampNeg 1)))))]) [1, 5] rfl
      have hDc := hD.sub (ws' := [(xHan, .inr (3, [.int 0, .int 1, .int 1, .ref hH, .ref hR, .ref hT, .ref hM])), (hM, .inl (cJ, 6, (.inr (.inl (vp_updL (fun _ => 0) (0 : Int32).toNatClampNeg 1)))))]) [1, 5] (by decide) rfl
      have hFc := va_free (wc := [(xHan, .inr (3, [.int 0, .int 1, .int 1, .ref hH, .ref hR, .ref hT, .ref hM])), (hM, .inl (cJ, 6, (.inr (.inl (vp_updL (fun _ => 0) (0 : Int32).toNatClampNeg 1)))))]) hD hS hA [1, 5] rfl
      refine va_calli (va_runV (As := []) (rest := []) ⟨hx, hb, hml, hown, hts⟩ (c_X3_canTell_t1 l dC dI cB cI cJ H.size xHan hH hR hT hM) (cwV 0 hts gX10_relationOf_X3_canTell rfl rfl rfl (by decide +kernel) ⟨Nat.le_of_ble_eq_true rfl, Nat.le_of_ble_eq_true rfl⟩) ⟨fun a U g mk q => by obtain ⟨q0, q1, qP, qK, qD⟩ := q; exact ⟨q0, q1, qP, va_K.moved (u := U) (U := U.calling g mk a) (Vm.Alike.refl U.vm) qK, qD⟩, va_recv hK hP (ci := 3) (q0 := 1) rfl rfl, fun U hU hW => ⟨rfl, by rw [hU], by rw [hU]; exact hPc, va_K.moved hW.alike hK, hDc.weaken (fun _ _ _ _ => trivial)⟩⟩ rfl rfl hl.1 rfl (lv_room (Nat.le_of_ble_eq_true rfl)) dX10_relationOf_26 ⟨Nat.le_of_ble_eq_true rfl, Nat.le_of_ble_eq_true rfl⟩) hS (fun q _ h => hFc q h) hFc (fun r_5 u t H1 locs ht hvm hw hB hz1 hk1 hS => ?_)
      obtain ⟨hP1, hK1, hD1⟩ := hB
      rw [ht] at hP1
      obtain ⟨hP, hD⟩ := va_join (wr := [(x0, .inr (10, [.ref xTape, .ref xReader, .ref xBag, .ref xBld, .ref xAng, .ref xSum, .ref xPik, .int 0, .ref xHan, .ref xIns, .ref xShr, .ref xSta, .ref xTur])), (xSum, .inr (8, [.ref sM, .ref sP, .ref sA, .int 0])), (hH, .inl (cI, 7, (.inl (upd (fun _ => 0) (0 : Int32).toNatClampNeg 0)))), (hT, .inl (cJ, 7, (.inr (.inl (vp_updL (fun _ => 0) (0 : Int32).toNatClampNeg 1)))))]) (w1 := [(xHan, .inr (3, [.int 0, .int 1, .int 1, .ref hH, .ref hR, .ref hT, .ref hM])), (hM, .inl (cJ, 6, (.inr (.inl (vp_updL (fun _ => 0) (0 : Int32).toNatClampNeg 1)))))]) hP hD [1, 5] [0, 2, 3, 4] rfl rfl (by decide) (by decide) hk1 hFc hP1 hD1
      generalize H1 = H at hP hS ⊢
      have hP : va_P (dC, dI) vwCl [(x0, .inr (10, [.ref xTape, .ref xReader, .ref xBag, .ref xBld, .ref xAng, .ref xSum, .ref xPik, .int 0, .ref xHan, .ref xIns, .ref xShr, .ref xSta, .ref xTur])), (xSum, .inr (8, [.ref sM, .ref sP, .ref sA, .int 0])), (hH, .inl (cI, 7, (.inl (upd (fun _ => 0) (0 : Int32).toNatClampNeg 0)))), (hT, .inl (cJ, 7, (.inr (.inl (vp_updL (fun _ => 0) (0 : Int32).toNatClampNeg 1))))), (xHan, .inr (3, [.int 0, .int 1, .int 1, .ref hH, .ref hR, .ref hT, .ref hM])), (hM, .inl (cJ, 6, (.inr (.inl (vp_updL (fun _ => 0) (0 : Int32).toNatClampNeg 1)))))] H := hP
      have hD : va_D A [(x0, .inr (10, [.ref xTape, .ref xReader, .ref xBag, .ref xBld, .ref xAng, .ref xSum, .ref xPik, .int 0, .ref xHan, .ref xIns, .ref xShr, .ref xSta, .ref xTur])), (xSum, .inr (8, [.ref sM, .ref sP, .ref sA, .int 0])), (hH, .inl (cI, 7, (.inl (upd (fun _ => 0) (0 : Int32).toNatClampNeg 0)))), (hT, .inl (cJ, 7, (.inr (.inl (vp_updL (fun _ => 0) (0 : Int32).toNatClampNeg 1))))), (xHan, .inr (3, [.int 0, .int 1, .int 1, .ref hH, .ref hR, .ref hT, .ref hM])), (hM, .inl (cJ, 6, (.inr (.inl (vp_updL (fun _ => 0) (0 : Int32).toNatClampNeg 1)))))] := hD
      have hr_5 := hw
      obtain rfl : r_5 = 1 := hr_5
      refine lv_if_ne (tgt := 35) hx hb dX10_relationOf_29 (by decide) (fun _ => ?_) (fun c => absurd c (by decide))
      rcases nk_split4 p1 (by (try simp only [nk_lt, nk_le, nk_eq, nk_wd, nk_c0, nk_c1, nk_c2, nk_c3, nk_c4, nk_c5, nk_c6, nk_c15, nk_c16, nk_c24, nk_c47, nk_c48, nk_c600, nk_c1728, nk_m1, nk_l0, nk_l1, nk_l2, nk_l3, nk_l5, nk_l15, nk_l24, nk_l47] at k_4); omega) with rfl | rfl | rfl | rfl
      · refine lv_iload_n hx hb dX10_relationOf_35 rfl (lv_at hl 1 rfl) ?_
        refine lv_iload_n hx hb dX10_relationOf_36 rfl (lv_at hl 2 rfl) ?_
        refine lv_ishr hx hb dX10_relationOf_37 ?_
        refine lv_topi (fun x_6 ex_6 => ?_)
        obtain rfl : x_6 = 1 := ex_6.trans (by first | rfl | decide)
        refine lv_iconst (v := 1) hx hb dX10_relationOf_38 (by decide) ?_
        refine lv_iand hx hb dX10_relationOf_39 ?_
        refine lv_topi (fun x_7 ex_7 => ?_)
        obtain rfl : x_7 = 1 := ex_7.trans (by first | rfl | decide)
        refine lv_if_ne (tgt := 45) hx hb dX10_relationOf_40 (by decide) (fun _ => ?_) (fun c => absurd c (by decide))
        refine lv_aload_n hx hb dX10_relationOf_45 rfl (lv_at hl 0 rfl) ?_
        refine va_get (D := (dC, dI)) (ci := 10) (v := .ref xHan) (C := RX10) (T := TX10) (N := 13) hx hb hts hiX10 hown hK hP 0 rfl rfl 8 (by decide) (hts (.fieldLink RX10 61 "ScissorsTable" "hang" "LScissorsTable$Hang;") (by decide +kernel)) (fun _ h9 => h9) rfl dX10_relationOf_46 ?_
        refine lv_iload_n hx hb dX10_relationOf_49 rfl (lv_at hl 1 rfl) ?_
        refine lv_iconst (v := 1) hx hb dX10_relationOf_50 (by decide) ?_
        refine lv_iload_n hx hb dX10_relationOf_51 rfl (lv_at hl 2 rfl) ?_
        refine lv_ishl hx hb dX10_relationOf_52 ?_
        refine lv_topi (fun x_8 ex_8 => ?_)
        obtain rfl : x_8 = 1 := ex_8.trans (by first | rfl | decide)
        refine lv_iconst (v := 1) hx hb dX10_relationOf_53 (by decide) ?_
        refine lv_isub hx hb dX10_relationOf_54 ?_
        refine lv_topi (fun x_9 ex_9 => ?_)
        obtain rfl : x_9 = 0 := ex_9.trans (by first | rfl | decide)
        refine lv_iand hx hb dX10_relationOf_55 ?_
        refine lv_topi (fun x_10 ex_10 => ?_)
        obtain rfl : x_10 = 0 := ex_10.trans (by first | rfl | decide)
        have hPc := hP.sub (ws' := []) [] rfl
        have hDc := hD.sub (ws' := []) [] (by decide) rfl
        have hFc := va_free (wc := []) hD hS hA [] rfl
        refine va_calli (va_runS (As := [.int 0]) (rest := [.ref xHan]) ⟨hx, hb, hml, hown, hts⟩ (c_J6_bitCount_0f7a4_0 l dC dI cB cI cJ H.size ) (va_cwS 1 hts gX10_relationOf_J6_bitCount_0f7a4 rfl rfl rfl (by decide +kernel) ⟨Nat.le_of_ble_eq_true rfl, Nat.le_of_ble_eq_true rfl⟩) ⟨fun a U g mk q => by obtain ⟨q0, q1, qP, qK, qD⟩ := q; exact ⟨q0, q1, qP, va_K.moved (u := U) (U := U.calling g mk a) (Vm.Alike.refl U.vm) qK, qD⟩, fun U hU hW => ⟨rfl, by rw [hU], by rw [hU]; exact hPc, va_K.moved hW.alike hK, hDc.weaken (fun _ _ _ _ => trivial)⟩⟩ rfl rfl hl.1 rfl (lv_room (Nat.le_of_ble_eq_true rfl)) dX10_relationOf_56 ⟨Nat.le_of_ble_eq_true rfl, Nat.le_of_ble_eq_true rfl⟩) hS (fun q _ h => hFc q h) hFc (fun r_11 u t H1 locs ht hvm hw hB hz1 hk1 hS => ?_)
        have hP1 : va_P (dC, dI) vwCl [] H1 := fun k q h => by simp at h
        have hD1 : va_D (va_A [] H.size) [] := ⟨fun i j p q h => by simp at h, fun k q h => by simp at h⟩
        obtain ⟨hP, hD⟩ := va_join (wr := [(x0, .inr (10, [.ref xTape, .ref xReader, .ref xBag, .ref xBld, .ref xAng, .ref xSum, .ref xPik, .int 0, .ref xHan, .ref xIns, .ref xShr, .ref xSta, .ref xTur])), (xSum, .inr (8, [.ref sM, .ref sP, .ref sA, .int 0])), (hH, .inl (cI, 7, (.inl (upd (fun _ => 0) (0 : Int32).toNatClampNeg 0)))), (hT, .inl (cJ, 7, (.inr (.inl (vp_updL (fun _ => 0) (0 : Int32).toNatClampNeg 1))))), (xHan, .inr (3, [.int 0, .int 1, .int 1, .ref hH, .ref hR, .ref hT, .ref hM])), (hM, .inl (cJ, 6, (.inr (.inl (vp_updL (fun _ => 0) (0 : Int32).toNatClampNeg 1)))))]) (w1 := []) hP hD [] [0, 1, 2, 3, 4, 5] rfl rfl (by decide) (by decide) hk1 hFc hP1 hD1
        generalize H1 = H at hP hS ⊢
        have hP : va_P (dC, dI) vwCl [(x0, .inr (10, [.ref xTape, .ref xReader, .ref xBag, .ref xBld, .ref xAng, .ref xSum, .ref xPik, .int 0, .ref xHan, .ref xIns, .ref xShr, .ref xSta, .ref xTur])), (xSum, .inr (8, [.ref sM, .ref sP, .ref sA, .int 0])), (hH, .inl (cI, 7, (.inl (upd (fun _ => 0) (0 : Int32).toNatClampNeg 0)))), (hT, .inl (cJ, 7, (.inr (.inl (vp_updL (fun _ => 0) (0 : Int32).toNatClampNeg 1))))), (xHan, .inr (3, [.int 0, .int 1, .int 1, .ref hH, .ref hR, .ref hT, .ref hM])), (hM, .inl (cJ, 6, (.inr (.inl (vp_updL (fun _ => 0) (0 : Int32).toNatClampNeg 1)))))] H := hP
        have hD : va_D A [(x0, .inr (10, [.ref xTape, .ref xReader, .ref xBag, .ref xBld, .ref xAng, .ref xSum, .ref xPik, .int 0, .ref xHan, .ref xIns, .ref xShr, .ref xSta, .ref xTur])), (xSum, .inr (8, [.ref sM, .ref sP, .ref sA, .int 0])), (hH, .inl (cI, 7, (.inl (upd (fun _ => 0) (0 : Int32).toNatClampNeg 0)))), (hT, .inl (cJ, 7, (.inr (.inl (vp_updL (fun _ => 0) (0 : Int32).toNatClampNeg 1))))), (xHan, .inr (3, [.int 0, .int 1, .int 1, .ref hH, .ref hR, .ref hT, .ref hM])), (hM, .inl (cJ, 6, (.inr (.inl (vp_updL (fun _ => 0) (0 : Int32).toNatClampNeg 1)))))] := hD
        have hr_11 := hw
        obtain rfl : r_11 = 0 := hr_11
        have hPc := hP.sub (ws' := [(xHan, .inr (3, [.int 0, .int 1, .int 1, .ref hH, .ref hR, .ref hT, .ref hM])), (hM, .inl (cJ, 6, (.inr (.inl (vp_updL (fun _ => 0) (0 : Int32).toNatClampNeg 1)))))]) [4, 5] rfl
        have hDc := hD.sub (ws' := [(xHan, .inr (3, [.int 0, .int 1, .int 1, .ref hH, .ref hR, .ref hT, .ref hM])), (hM, .inl (cJ, 6, (.inr (.inl (vp_updL (fun _ => 0) (0 : Int32).toNatClampNeg 1)))))]) [4, 5] (by decide) rfl
        have hFc := va_free (wc := [(xHan, .inr (3, [.int 0, .int 1, .int 1, .ref hH, .ref hR, .ref hT, .ref hM])), (hM, .inl (cJ, 6, (.inr (.inl (vp_updL (fun _ => 0) (0 : Int32).toNatClampNeg 1)))))]) hD hS hA [4, 5] rfl
        refine va_calli (va_runV (As := [.int 0]) (rest := []) ⟨hx, hb, hml, hown, hts⟩ (c_X3_timesOf_t1_0 l dC dI cB cI cJ H.size xHan hH hR hT hM) (cwV 1 hts gX10_relationOf_X3_timesOf rfl rfl rfl (by decide +kernel) ⟨Nat.le_of_ble_eq_true rfl, Nat.le_of_ble_eq_true rfl⟩) ⟨fun a U g mk q => by obtain ⟨q0, q1, qP, qK, qD⟩ := q; exact ⟨q0, q1, qP, va_K.moved (u := U) (U := U.calling g mk a) (Vm.Alike.refl U.vm) qK, qD⟩, va_recv hK hP (ci := 3) (q0 := 4) rfl rfl, fun U hU hW => ⟨rfl, by rw [hU], by rw [hU]; exact hPc, va_K.moved hW.alike hK, hDc.weaken (fun _ _ _ _ => trivial)⟩⟩ rfl rfl hl.1 rfl (lv_room (Nat.le_of_ble_eq_true rfl)) dX10_relationOf_59 ⟨Nat.le_of_ble_eq_true rfl, Nat.le_of_ble_eq_true rfl⟩) hS (fun q _ h => hFc q h) hFc (fun r_12 u t H1 locs ht hvm hw hB hz1 hk1 hS => ?_)
        have hP1 : va_P (dC, dI) vwCl [] H1 := fun k q h => by simp at h
        have hD1 : va_D (va_A [(xHan, .inr (3, [.int 0, .int 1, .int 1, .ref hH, .ref hR, .ref hT, .ref hM])), (hM, .inl (cJ, 6, (.inr (.inl (vp_updL (fun _ => 0) (0 : Int32).toNatClampNeg 1)))))] H.size) [] := ⟨fun i j p q h => by simp at h, fun k q h => by simp at h⟩
        obtain ⟨hP, hD⟩ := va_join (wr := [(x0, .inr (10, [.ref xTape, .ref xReader, .ref xBag, .ref xBld, .ref xAng, .ref xSum, .ref xPik, .int 0, .ref xHan, .ref xIns, .ref xShr, .ref xSta, .ref xTur])), (xSum, .inr (8, [.ref sM, .ref sP, .ref sA, .int 0])), (hH, .inl (cI, 7, (.inl (upd (fun _ => 0) (0 : Int32).toNatClampNeg 0)))), (hT, .inl (cJ, 7, (.inr (.inl (vp_updL (fun _ => 0) (0 : Int32).toNatClampNeg 1)))))]) (w1 := []) hP hD [4, 5] [0, 1, 2, 3] rfl rfl (by decide) (by decide) hk1 hFc hP1 hD1
        generalize H1 = H at hP hS ⊢
        have hP : va_P (dC, dI) vwCl [(x0, .inr (10, [.ref xTape, .ref xReader, .ref xBag, .ref xBld, .ref xAng, .ref xSum, .ref xPik, .int 0, .ref xHan, .ref xIns, .ref xShr, .ref xSta, .ref xTur])), (xSum, .inr (8, [.ref sM, .ref sP, .ref sA, .int 0])), (hH, .inl (cI, 7, (.inl (upd (fun _ => 0) (0 : Int32).toNatClampNeg 0)))), (hT, .inl (cJ, 7, (.inr (.inl (vp_updL (fun _ => 0) (0 : Int32).toNatClampNeg 1)))))] H := hP
        have hD : va_D A [(x0, .inr (10, [.ref xTape, .ref xReader, .ref xBag, .ref xBld, .ref xAng, .ref xSum, .ref xPik, .int 0, .ref xHan, .ref xIns, .ref xShr, .ref xSta, .ref xTur])), (xSum, .inr (8, [.ref sM, .ref sP, .ref sA, .int 0])), (hH, .inl (cI, 7, (.inl (upd (fun _ => 0) (0 : Int32).toNatClampNeg 0)))), (hT, .inl (cJ, 7, (.inr (.inl (vp_updL (fun _ => 0) (0 : Int32).toNatClampNeg 1)))))] := hD
        have hr_12 := hw
        obtain rfl : r_12 = 1 := hr_12
        refine W.widen (k := 0) (n := 0) (Nat.le_of_ble_eq_true rfl) (Nat.le_of_ble_eq_true rfl) ?_
        exact W.iret (v := 1) hx hb hr (fun t ht hW => ⟨⟨1, (), rfl, (by decide), trivial⟩, hS.F ht⟩) hS.2.2 dX10_relationOf_62
      · refine lv_iload_n hx hb dX10_relationOf_35 rfl (lv_at hl 1 rfl) ?_
        refine lv_iload_n hx hb dX10_relationOf_36 rfl (lv_at hl 2 rfl) ?_
        refine lv_ishr hx hb dX10_relationOf_37 ?_
        refine lv_topi (fun x_13 ex_13 => ?_)
        obtain rfl : x_13 = 0 := ex_13.trans (by first | rfl | decide)
        refine lv_iconst (v := 1) hx hb dX10_relationOf_38 (by decide) ?_
        refine lv_iand hx hb dX10_relationOf_39 ?_
        refine lv_topi (fun x_14 ex_14 => ?_)
        obtain rfl : x_14 = 0 := ex_14.trans (by first | rfl | decide)
        refine lv_if_ne (tgt := 45) hx hb dX10_relationOf_40 (by decide) (fun c => absurd (by decide) c) (fun _ => ?_)
        refine lv_iconst (v := 0) hx hb dX10_relationOf_43 (by decide) ?_
        refine W.widen (k := 0) (n := 0) (Nat.le_of_ble_eq_true rfl) (Nat.le_of_ble_eq_true rfl) ?_
        exact W.iret (v := 0) hx hb hr (fun t ht hW => ⟨⟨0, (), rfl, (by decide), trivial⟩, hS.F ht⟩) hS.2.2 dX10_relationOf_44
      · refine lv_iload_n hx hb dX10_relationOf_35 rfl (lv_at hl 1 rfl) ?_
        refine lv_iload_n hx hb dX10_relationOf_36 rfl (lv_at hl 2 rfl) ?_
        refine lv_ishr hx hb dX10_relationOf_37 ?_
        refine lv_topi (fun x_15 ex_15 => ?_)
        obtain rfl : x_15 = 0 := ex_15.trans (by first | rfl | decide)
        refine lv_iconst (v := 1) hx hb dX10_relationOf_38 (by decide) ?_
        refine lv_iand hx hb dX10_relationOf_39 ?_
        refine lv_topi (fun x_16 ex_16 => ?_)
        obtain rfl : x_16 = 0 := ex_16.trans (by first | rfl | decide)
        refine lv_if_ne (tgt := 45) hx hb dX10_relationOf_40 (by decide) (fun c => absurd (by decide) c) (fun _ => ?_)
        refine lv_iconst (v := 0) hx hb dX10_relationOf_43 (by decide) ?_
        refine W.widen (k := 0) (n := 0) (Nat.le_of_ble_eq_true rfl) (Nat.le_of_ble_eq_true rfl) ?_
        exact W.iret (v := 0) hx hb hr (fun t ht hW => ⟨⟨0, (), rfl, (by decide), trivial⟩, hS.F ht⟩) hS.2.2 dX10_relationOf_44
      · refine lv_iload_n hx hb dX10_relationOf_35 rfl (lv_at hl 1 rfl) ?_
        refine lv_iload_n hx hb dX10_relationOf_36 rfl (lv_at hl 2 rfl) ?_
        refine lv_ishr hx hb dX10_relationOf_37 ?_
        refine lv_topi (fun x_17 ex_17 => ?_)
        obtain rfl : x_17 = 0 := ex_17.trans (by first | rfl | decide)
        refine lv_iconst (v := 1) hx hb dX10_relationOf_38 (by decide) ?_
        refine lv_iand hx hb dX10_relationOf_39 ?_
        refine lv_topi (fun x_18 ex_18 => ?_)
        obtain rfl : x_18 = 0 := ex_18.trans (by first | rfl | decide)
        refine lv_if_ne (tgt := 45) hx hb dX10_relationOf_40 (by decide) (fun c => absurd (by decide) c) (fun _ => ?_)
        refine lv_iconst (v := 0) hx hb dX10_relationOf_43 (by decide) ?_
        refine W.widen (k := 0) (n := 0) (Nat.le_of_ble_eq_true rfl) (Nat.le_of_ble_eq_true rfl) ?_
        exact W.iret (v := 0) hx hb hr (fun t ht hW => ⟨⟨0, (), rfl, (by decide), trivial⟩, hS.F ht⟩) hS.2.2 dX10_relationOf_44
set_option maxHeartbeats 4000000 in
set_option maxRecDepth 100000 in
theorem c_X10_relationOf_2 (l : Launch) (dC : Nat → ClassId) (dI : Nat → Nat → Nat) (cB cI cJ : ClassId) (sz : Nat) (x0 xTape xReader xBag xBld xAng xSum xPik xHan xIns xShr xSta xTur sM sP sA hH hR hT hM : Nat) (p1 : Int32) : Met l yX10_relationOf wsX10_relationOf ({ frames := 12, cells := 0, slots := 0, locals := 400 }) (va_Pc [.ref x0, .int 2, .int p1] (fun U => U.heap.size = sz ∧ va_P (dC, dI) vwCl [(x0, .inr (10, [.ref xTape, .ref xReader, .ref xBag, .ref xBld, .ref xAng, .ref xSum, .ref xPik, .int 0, .ref xHan, .ref xIns, .ref xShr, .ref xSta, .ref xTur])), (xSum, .inr (8, [.ref sM, .ref sP, .ref sA, .int 0])), (xHan, .inr (3, [.int 0, .int 0, .int 0, .ref hH, .ref hR, .ref hT, .ref hM])), (hH, .inl (cI, 7, (.inl (fun _ => 0)))), (hT, .inl (cJ, 7, (.inr (.inl (fun _ => 0))))), (hM, .inl (cJ, 6, (.inr (.inl (fun _ => 0)))))] U.heap ∧ va_K (dC, dI) vwCl [(cB, .byte), (cI, .int), (cJ, .long)] U ∧ va_D (fun _ => True) [(x0, .inr (10, [.ref xTape, .ref xReader, .ref xBag, .ref xBld, .ref xAng, .ref xSum, .ref xPik, .int 0, .ref xHan, .ref xIns, .ref xShr, .ref xSta, .ref xTur])), (xSum, .inr (8, [.ref sM, .ref sP, .ref sA, .int 0])), (xHan, .inr (3, [.int 0, .int 0, .int 0, .ref hH, .ref hR, .ref hT, .ref hM])), (hH, .inl (cI, 7, (.inl (fun _ => 0)))), (hT, .inl (cJ, 7, (.inr (.inl (fun _ => 0))))), (hM, .inl (cJ, 6, (.inr (.inl (fun _ => 0)))))] ∧ va_Nw (.methodLinkNest RX3 62 yX10_gcd "ScissorsTable") U)) (va_Qi (fun (r : Int32) (_ : Unit) => r = sp_rel 2 p1) (fun _ _ => True) (va_A [(x0, .inr (10, [.ref xTape, .ref xReader, .ref xBag, .ref xBld, .ref xAng, .ref xSum, .ref xPik, .int 0, .ref xHan, .ref xIns, .ref xShr, .ref xSta, .ref xTur])), (xSum, .inr (8, [.ref sM, .ref sP, .ref sA, .int 0])), (xHan, .inr (3, [.int 0, .int 0, .int 0, .ref hH, .ref hR, .ref hT, .ref hM])), (hH, .inl (cI, 7, (.inl (fun _ => 0)))), (hT, .inl (cJ, 7, (.inr (.inl (fun _ => 0))))), (hM, .inl (cJ, 6, (.inr (.inl (fun _ => 0)))))] sz)) 0 0 (va_A [(x0, .inr (10, [.ref xTape, .ref xReader, .ref xBag, .ref xBld, .ref xAng, .ref xSum, .ref xPik, .int 0, .ref xHan, .ref xIns, .ref xShr, .ref xSta, .ref xTur])), (xSum, .inr (8, [.ref sM, .ref sP, .ref sA, .int 0])), (xHan, .inr (3, [.int 0, .int 0, .int 0, .ref hH, .ref hR, .ref hT, .ref hM])), (hH, .inl (cI, 7, (.inl (fun _ => 0)))), (hT, .inl (cJ, 7, (.inr (.inl (fun _ => 0))))), (hM, .inl (cJ, 6, (.inr (.inl (fun _ => 0)))))] sz) := by
  refine Met.ofW (cc := cX10_relationOf) (maxL := 3) (ret := (some .int)) (by decide) rfl ?_
  intro p e s m args below meth c s₁ B hml hv
  obtain ⟨rfl, hsz, hP, hK, hD0, hN0⟩ := hv
  have hx := B.exec
  have hb := B.bytes
  have hr := B.returns
  have hts := atoms_spec (ws := wsX10_relationOf) B.pre
  have hown : s.vm.findClass RX10 = some m.cls := findClass_of_methodNamed B.named
  have hlocks := B.notSynchronized
  have hiX10 : ∀ w ∈ u_ws RX10 TX10 13, w ∈ wsX10_relationOf := by decide +kernel
  subst hsz
  have hD := hD0.self (sz := s.heap.size)
  generalize hAe : va_A [(x0, .inr (10, [.ref xTape, .ref xReader, .ref xBag, .ref xBld, .ref xAng, .ref xSum, .ref xPik, .int 0, .ref xHan, .ref xIns, .ref xShr, .ref xSta, .ref xTur])), (xSum, .inr (8, [.ref sM, .ref sP, .ref sA, .int 0])), (xHan, .inr (3, [.int 0, .int 0, .int 0, .ref hH, .ref hR, .ref hT, .ref hM])), (hH, .inl (cI, 7, (.inl (fun _ => 0)))), (hT, .inl (cJ, 7, (.inr (.inl (fun _ => 0))))), (hM, .inl (cJ, 6, (.inr (.inl (fun _ => 0)))))] s.heap.size = A at hD ⊢
  have hA : ∀ q : Nat, s.heap.size ≤ q → A q := fun q h => by rw [← hAe]; exact Or.inr h
  have hS : va_S A s.heap s.heap [] := va_S.rf
  have hP : va_P (dC, dI) vwCl [(x0, .inr (10, [.ref xTape, .ref xReader, .ref xBag, .ref xBld, .ref xAng, .ref xSum, .ref xPik, .int 0, .ref xHan, .ref xIns, .ref xShr, .ref xSta, .ref xTur])), (xSum, .inr (8, [.ref sM, .ref sP, .ref sA, .int 0])), (xHan, .inr (3, [.int 0, .int 0, .int 0, .ref hH, .ref hR, .ref hT, .ref hM])), (hH, .inl (cI, 7, (.inl (fun _ => 0)))), (hT, .inl (cJ, 7, (.inr (.inl (fun _ => 0))))), (hM, .inl (cJ, 6, (.inr (.inl (fun _ => 0)))))] s.heap := hP
  have hl := lv_entry ([.ref x0, .int 2, .int p1]) (n := 3) (Nat.le_of_ble_eq_true rfl)
  rw [lg_entry_eq]
  generalize (lg_sl ([.ref x0, .int 2, .int p1]) ++ List.replicate (3 - (lg_sl ([.ref x0, .int 2, .int p1])).length) Slot.unset).toArray = ls at hl ⊢
  have hl : lv_has ls 3 [(0, .ref x0), (1, .int 2), (2, .int p1)] := hl
  refine lv_iload_n hx hb dX10_relationOf_0 rfl (lv_at hl 1 rfl) ?_
  have hPc := hP.sub (ws' := []) [] rfl
  have hDc := hD.sub (ws' := []) [] (by decide) rfl
  have hFc := va_free (wc := []) hD hS hA [] rfl
  refine va_calli (va_runS (As := [.int 2]) (rest := []) ⟨hx, hb, hml, hown, hts⟩ (c_X10_isSetOfSolids l dC dI cB cI cJ s.heap.size 2) (va_cwS 1 hts gX10_relationOf_X10_isSetOfSolids rfl rfl rfl (by decide +kernel) ⟨Nat.le_of_ble_eq_true rfl, Nat.le_of_ble_eq_true rfl⟩) ⟨fun a U g mk q => by obtain ⟨q0, q1, qP, qK, qD⟩ := q; exact ⟨q0, q1, qP, va_K.moved (u := U) (U := U.calling g mk a) (Vm.Alike.refl U.vm) qK, qD⟩, fun U hU hW => ⟨rfl, by rw [hU], by rw [hU]; exact hPc, va_K.moved hW.alike hK, hDc.weaken (fun _ _ _ _ => trivial)⟩⟩ rfl rfl hl.1 rfl (lv_room (Nat.le_of_ble_eq_true rfl)) dX10_relationOf_1 ⟨Nat.le_of_ble_eq_true rfl, Nat.le_of_ble_eq_true rfl⟩) hS (fun q _ h => hFc q h) hFc (fun r_1 u t H1 locs ht hvm hw hB hz1 hk1 hS => ?_)
  have hP1 : va_P (dC, dI) vwCl [] H1 := fun k q h => by simp at h
  have hD1 : va_D (va_A [] s.heap.size) [] := ⟨fun i j p q h => by simp at h, fun k q h => by simp at h⟩
  obtain ⟨hP, hD⟩ := va_join (wr := [(x0, .inr (10, [.ref xTape, .ref xReader, .ref xBag, .ref xBld, .ref xAng, .ref xSum, .ref xPik, .int 0, .ref xHan, .ref xIns, .ref xShr, .ref xSta, .ref xTur])), (xSum, .inr (8, [.ref sM, .ref sP, .ref sA, .int 0])), (xHan, .inr (3, [.int 0, .int 0, .int 0, .ref hH, .ref hR, .ref hT, .ref hM])), (hH, .inl (cI, 7, (.inl (fun _ => 0)))), (hT, .inl (cJ, 7, (.inr (.inl (fun _ => 0))))), (hM, .inl (cJ, 6, (.inr (.inl (fun _ => 0)))))]) (w1 := []) hP hD [] [0, 1, 2, 3, 4, 5] rfl rfl (by decide) (by decide) hk1 hFc hP1 hD1
  generalize H1 = H at hP hS ⊢
  have hP : va_P (dC, dI) vwCl [(x0, .inr (10, [.ref xTape, .ref xReader, .ref xBag, .ref xBld, .ref xAng, .ref xSum, .ref xPik, .int 0, .ref xHan, .ref xIns, .ref xShr, .ref xSta, .ref xTur])), (xSum, .inr (8, [.ref sM, .ref sP, .ref sA, .int 0])), (xHan, .inr (3, [.int 0, .int 0, .int 0, .ref hH, .ref hR, .ref hT, .ref hM])), (hH, .inl (cI, 7, (.inl (fun _ => 0)))), (hT, .inl (cJ, 7, (.inr (.inl (fun _ => 0))))), (hM, .inl (cJ, 6, (.inr (.inl (fun _ => 0)))))] H := hP
  have hD : va_D A [(x0, .inr (10, [.ref xTape, .ref xReader, .ref xBag, .ref xBld, .ref xAng, .ref xSum, .ref xPik, .int 0, .ref xHan, .ref xIns, .ref xShr, .ref xSta, .ref xTur])), (xSum, .inr (8, [.ref sM, .ref sP, .ref sA, .int 0])), (xHan, .inr (3, [.int 0, .int 0, .int 0, .ref hH, .ref hR, .ref hT, .ref hM])), (hH, .inl (cI, 7, (.inl (fun _ => 0)))), (hT, .inl (cJ, 7, (.inr (.inl (fun _ => 0))))), (hM, .inl (cJ, 6, (.inr (.inl (fun _ => 0)))))] := hD
  rcases hw with ⟨rfl, k_2⟩ | ⟨rfl, k_2⟩
  · refine lv_if_eq (tgt := 14) hx hb dX10_relationOf_4 (by decide) (fun _ => ?_) (fun c => absurd (by decide) c)
    refine lv_ldc (v := (-1000000)) hx hb hown (hts (.constant RX10 140 (-1000000)) (by decide +kernel)) dX10_relationOf_14 ?_
    refine W.widen (k := 0) (n := 0) (Nat.le_of_ble_eq_true rfl) (Nat.le_of_ble_eq_true rfl) ?_
    exact W.iret (v := (-1000000)) hx hb hr (fun t ht hW => ⟨⟨(-1000000), (), rfl, (absurd (by decide) k_2), trivial⟩, hS.F ht⟩) hS.2.2 dX10_relationOf_16
  · refine lv_if_eq (tgt := 14) hx hb dX10_relationOf_4 (by decide) (fun c => absurd c (by decide)) (fun _ => ?_)
    refine lv_iload_n hx hb dX10_relationOf_7 rfl (lv_at hl 2 rfl) ?_
    have hPc := hP.sub (ws' := []) [] rfl
    have hDc := hD.sub (ws' := []) [] (by decide) rfl
    have hFc := va_free (wc := []) hD hS hA [] rfl
    refine va_calli (va_runS (As := [.int p1]) (rest := []) ⟨hx, hb, hml, hown, hts⟩ (c_X10_isSolid l dC dI cB cI cJ H.size p1) (va_cwS 1 hts gX10_relationOf_X10_isSolid rfl rfl rfl (by decide +kernel) ⟨Nat.le_of_ble_eq_true rfl, Nat.le_of_ble_eq_true rfl⟩) ⟨fun a U g mk q => by obtain ⟨q0, q1, qP, qK, qD⟩ := q; exact ⟨q0, q1, qP, va_K.moved (u := U) (U := U.calling g mk a) (Vm.Alike.refl U.vm) qK, qD⟩, fun U hU hW => ⟨rfl, by rw [hU], by rw [hU]; exact hPc, va_K.moved hW.alike hK, hDc.weaken (fun _ _ _ _ => trivial)⟩⟩ rfl rfl hl.1 rfl (lv_room (Nat.le_of_ble_eq_true rfl)) dX10_relationOf_8 ⟨Nat.le_of_ble_eq_true rfl, Nat.le_of_ble_eq_true rfl⟩) hS (fun q _ h => hFc q h) hFc (fun r_3 u t H1 locs ht hvm hw hB hz1 hk1 hS => ?_)
    have hP1 : va_P (dC, dI) vwCl [] H1 := fun k q h => by simp at h
    have hD1 : va_D (va_A [] H.size) [] := ⟨fun i j p q h => by simp at h, fun k q h => by simp at h⟩
    obtain ⟨hP, hD⟩ := va_join (wr := [(x0, .inr (10, [.ref xTape, .ref xReader, .ref xBag, .ref xBld, .ref xAng, .ref xSum, .ref xPik, .int 0, .ref xHan, .ref xIns, .ref xShr, .ref xSta, .ref xTur])), (xSum, .inr (8, [.ref sM, .ref sP, .ref sA, .int 0])), (xHan, .inr (3, [.int 0, .int 0, .int 0, .ref hH, .ref hR, .ref hT, .ref hM])), (hH, .inl (cI, 7, (.inl (fun _ => 0)))), (hT, .inl (cJ, 7, (.inr (.inl (fun _ => 0))))), (hM, .inl (cJ, 6, (.inr (.inl (fun _ => 0)))))]) (w1 := []) hP hD [] [0, 1, 2, 3, 4, 5] rfl rfl (by decide) (by decide) hk1 hFc hP1 hD1
    generalize H1 = H at hP hS ⊢
    have hP : va_P (dC, dI) vwCl [(x0, .inr (10, [.ref xTape, .ref xReader, .ref xBag, .ref xBld, .ref xAng, .ref xSum, .ref xPik, .int 0, .ref xHan, .ref xIns, .ref xShr, .ref xSta, .ref xTur])), (xSum, .inr (8, [.ref sM, .ref sP, .ref sA, .int 0])), (xHan, .inr (3, [.int 0, .int 0, .int 0, .ref hH, .ref hR, .ref hT, .ref hM])), (hH, .inl (cI, 7, (.inl (fun _ => 0)))), (hT, .inl (cJ, 7, (.inr (.inl (fun _ => 0))))), (hM, .inl (cJ, 6, (.inr (.inl (fun _ => 0)))))] H := hP
    have hD : va_D A [(x0, .inr (10, [.ref xTape, .ref xReader, .ref xBag, .ref xBld, .ref xAng, .ref xSum, .ref xPik, .int 0, .ref xHan, .ref xIns, .ref xShr, .ref xSta, .ref xTur])), (xSum, .inr (8, [.ref sM, .ref sP, .ref sA, .int 0])), (xHan, .inr (3, [.int 0, .int 0, .int 0, .ref hH, .ref hR, .ref hT, .ref hM])), (hH, .inl (cI, 7, (.inl (fun _ => 0)))), (hT, .inl (cJ, 7, (.inr (.inl (fun _ => 0))))), (hM, .inl (cJ, 6, (.inr (.inl (fun _ => 0)))))] := hD
    rcases hw with ⟨rfl, k_4⟩ | ⟨rfl, k_4⟩
    · refine lv_if_ne (tgt := 17) hx hb dX10_relationOf_11 (by decide) (fun c => absurd (by decide) c) (fun _ => ?_)
      refine lv_ldc (v := (-1000000)) hx hb hown (hts (.constant RX10 140 (-1000000)) (by decide +kernel)) dX10_relationOf_14 ?_
      refine W.widen (k := 0) (n := 0) (Nat.le_of_ble_eq_true rfl) (Nat.le_of_ble_eq_true rfl) ?_
      exact W.iret (v := (-1000000)) hx hb hr (fun t ht hW => ⟨⟨(-1000000), (), rfl, (show (-1000000 : Int32) = sp_rel 2 p1 from (by unfold sp_rel; rw [if_neg (fun h9 => k_4 h9.2)])), trivial⟩, hS.F ht⟩) hS.2.2 dX10_relationOf_16
    · refine lv_if_ne (tgt := 17) hx hb dX10_relationOf_11 (by decide) (fun _ => ?_) (fun c => absurd c (by decide))
      refine lv_aload_n hx hb dX10_relationOf_17 rfl (lv_at hl 0 rfl) ?_
      refine lv_iload_n hx hb dX10_relationOf_18 rfl (lv_at hl 1 rfl) ?_
      have hPc := hP.sub (ws' := [(x0, .inr (10, [.ref xTape, .ref xReader, .ref xBag, .ref xBld, .ref xAng, .ref xSum, .ref xPik, .int 0, .ref xHan, .ref xIns, .ref xShr, .ref xSta, .ref xTur])), (xSum, .inr (8, [.ref sM, .ref sP, .ref sA, .int 0])), (xHan, .inr (3, [.int 0, .int 0, .int 0, .ref hH, .ref hR, .ref hT, .ref hM])), (hH, .inl (cI, 7, (.inl (fun _ => 0)))), (hT, .inl (cJ, 7, (.inr (.inl (fun _ => 0))))), (hM, .inl (cJ, 6, (.inr (.inl (fun _ => 0)))))]) [0, 1, 2, 3, 4, 5] rfl
      have hDc := hD.sub (ws' := [(x0, .inr (10, [.ref xTape, .ref xReader, .ref xBag, .ref xBld, .ref xAng, .ref xSum, .ref xPik, .int 0, .ref xHan, .ref xIns, .ref xShr, .ref xSta, .ref xTur])), (xSum, .inr (8, [.ref sM, .ref sP, .ref sA, .int 0])), (xHan, .inr (3, [.int 0, .int 0, .int 0, .ref hH, .ref hR, .ref hT, .ref hM])), (hH, .inl (cI, 7, (.inl (fun _ => 0)))), (hT, .inl (cJ, 7, (.inr (.inl (fun _ => 0))))), (hM, .inl (cJ, 6, (.inr (.inl (fun _ => 0)))))]) [0, 1, 2, 3, 4, 5] (by decide) rfl
      have hFc := va_free (wc := [(x0, .inr (10, [.ref xTape, .ref xReader, .ref xBag, .ref xBld, .ref xAng, .ref xSum, .ref xPik, .int 0, .ref xHan, .ref xIns, .ref xShr, .ref xSta, .ref xTur])), (xSum, .inr (8, [.ref sM, .ref sP, .ref sA, .int 0])), (xHan, .inr (3, [.int 0, .int 0, .int 0, .ref hH, .ref hR, .ref hT, .ref hM])), (hH, .inl (cI, 7, (.inl (fun _ => 0)))), (hT, .inl (cJ, 7, (.inr (.inl (fun _ => 0))))), (hM, .inl (cJ, 6, (.inr (.inl (fun _ => 0)))))]) hD hS hA [0, 1, 2, 3, 4, 5] rfl
      refine va_callv (va_runV (As := [.int 2]) (rest := []) ⟨hx, hb, hml, hown, hts⟩ (c_X10_hangSolids_2 l dC dI cB cI cJ H.size x0 xTape xReader xBag xBld xAng xSum xPik xHan xIns xShr xSta xTur sM sP sA hH hR hT hM (fun _ => 0) (fun _ => 0)) (cwV 1 hts gX10_relationOf_X10_hangSolids rfl rfl rfl (by decide +kernel) ⟨Nat.le_of_ble_eq_true rfl, Nat.le_of_ble_eq_true rfl⟩) ⟨fun a U g mk q => by obtain ⟨q0, q1, qP, qK, qD, qN0⟩ := q; exact ⟨q0, q1, qP, va_K.moved (u := U) (U := U.calling g mk a) (Vm.Alike.refl U.vm) qK, qD, va_Nw.same rfl rfl qN0⟩, va_recv hK hP (ci := 10) (q0 := 0) rfl rfl, fun U hU hW => ⟨rfl, by rw [hU], by rw [hU]; exact hPc, va_K.moved hW.alike hK, hDc.weaken (fun _ _ _ _ => trivial), va_Nw.warmM hW hN0⟩⟩ rfl rfl hl.1 rfl (lv_room (Nat.le_of_ble_eq_true rfl)) dX10_relationOf_19 ⟨Nat.le_of_ble_eq_true rfl, Nat.le_of_ble_eq_true rfl⟩) hS (fun q _ h => hFc q h) hFc (fun u t H1 locs ht hvm hw hB hz1 hk1 hS => ?_)
      obtain ⟨hP1, hK1, hD1⟩ := hB
      rw [ht] at hP1
      obtain ⟨hP, hD⟩ := va_join (wr := []) (w1 := [(x0, .inr (10, [.ref xTape, .ref xReader, .ref xBag, .ref xBld, .ref xAng, .ref xSum, .ref xPik, .int 0, .ref xHan, .ref xIns, .ref xShr, .ref xSta, .ref xTur])), (xHan, .inr (3, [.int 0, .int 1, .int 1, .ref hH, .ref hR, .ref hT, .ref hM])), (xSum, .inr (8, [.ref sM, .ref sP, .ref sA, .int 0])), (hH, .inl (cI, 7, (.inl (upd (fun _ => 0) (0 : Int32).toNatClampNeg 1)))), (hT, .inl (cJ, 7, (.inr (.inl (vp_updL (fun _ => 0) (0 : Int32).toNatClampNeg 1))))), (hM, .inl (cJ, 6, (.inr (.inl (vp_updL (fun _ => 0) (0 : Int32).toNatClampNeg 1)))))]) hP hD [0, 1, 2, 3, 4, 5] [] rfl rfl (by decide) (by decide) hk1 hFc hP1 hD1
      generalize H1 = H at hP hS ⊢
      have hP : va_P (dC, dI) vwCl [(x0, .inr (10, [.ref xTape, .ref xReader, .ref xBag, .ref xBld, .ref xAng, .ref xSum, .ref xPik, .int 0, .ref xHan, .ref xIns, .ref xShr, .ref xSta, .ref xTur])), (xHan, .inr (3, [.int 0, .int 1, .int 1, .ref hH, .ref hR, .ref hT, .ref hM])), (xSum, .inr (8, [.ref sM, .ref sP, .ref sA, .int 0])), (hH, .inl (cI, 7, (.inl (upd (fun _ => 0) (0 : Int32).toNatClampNeg 1)))), (hT, .inl (cJ, 7, (.inr (.inl (vp_updL (fun _ => 0) (0 : Int32).toNatClampNeg 1))))), (hM, .inl (cJ, 6, (.inr (.inl (vp_updL (fun _ => 0) (0 : Int32).toNatClampNeg 1)))))] H := hP
      have hD : va_D A [(x0, .inr (10, [.ref xTape, .ref xReader, .ref xBag, .ref xBld, .ref xAng, .ref xSum, .ref xPik, .int 0, .ref xHan, .ref xIns, .ref xShr, .ref xSta, .ref xTur])), (xHan, .inr (3, [.int 0, .int 1, .int 1, .ref hH, .ref hR, .ref hT, .ref hM])), (xSum, .inr (8, [.ref sM, .ref sP, .ref sA, .int 0])), (hH, .inl (cI, 7, (.inl (upd (fun _ => 0) (0 : Int32).toNatClampNeg 1)))), (hT, .inl (cJ, 7, (.inr (.inl (vp_updL (fun _ => 0) (0 : Int32).toNatClampNeg 1))))), (hM, .inl (cJ, 6, (.inr (.inl (vp_updL (fun _ => 0) (0 : Int32).toNatClampNeg 1)))))] := hD
      refine lv_aload_n hx hb dX10_relationOf_22 rfl (lv_at hl 0 rfl) ?_
      refine va_get (D := (dC, dI)) (ci := 10) (v := .ref xHan) (C := RX10) (T := TX10) (N := 13) hx hb hts hiX10 hown hK hP 0 rfl rfl 8 (by decide) (hts (.fieldLink RX10 61 "ScissorsTable" "hang" "LScissorsTable$Hang;") (by decide +kernel)) (fun _ h9 => h9) rfl dX10_relationOf_23 ?_
      have hPc := hP.sub (ws' := [(xHan, .inr (3, [.int 0, .int 1, .int 1, .ref hH, .ref hR, .ref hT, .ref hM])), (hM, .inl (cJ, 6, (.inr (.inl (vp_updL (fun _ => 0) (0 : Int32).toNatClampNeg 1)))))]) [1, 5] rfl
      have hDc := hD.sub (ws' := [(xHan, .inr (3, [.int 0, .int 1, .int 1, .ref hH, .ref hR, .ref hT, .ref hM])), (hM, .inl (cJ, 6, (.inr (.inl (vp_updL (fun _ => 0) (0 : Int32).toNatClampNeg 1)))))]) [1, 5] (by decide) rfl
      have hFc := va_free (wc := [(xHan, .inr (3, [.int 0, .int 1, .int 1, .ref hH, .ref hR, .ref hT, .ref hM])), (hM, .inl (cJ, 6, (.inr (.inl (vp_updL (fun _ => 0) (0 : Int32).toNatClampNeg 1)))))]) hD hS hA [1, 5] rfl
      refine va_calli (va_runV (As := []) (rest := []) ⟨hx, hb, hml, hown, hts⟩ (c_X3_canTell_t1 l dC dI cB cI cJ H.size xHan hH hR hT hM) (cwV 0 hts gX10_relationOf_X3_canTell rfl rfl rfl (by decide +kernel) ⟨Nat.le_of_ble_eq_true rfl, Nat.le_of_ble_eq_true rfl⟩) ⟨fun a U g mk q => by obtain ⟨q0, q1, qP, qK, qD⟩ := q; exact ⟨q0, q1, qP, va_K.moved (u := U) (U := U.calling g mk a) (Vm.Alike.refl U.vm) qK, qD⟩, va_recv hK hP (ci := 3) (q0 := 1) rfl rfl, fun U hU hW => ⟨rfl, by rw [hU], by rw [hU]; exact hPc, va_K.moved hW.alike hK, hDc.weaken (fun _ _ _ _ => trivial)⟩⟩ rfl rfl hl.1 rfl (lv_room (Nat.le_of_ble_eq_true rfl)) dX10_relationOf_26 ⟨Nat.le_of_ble_eq_true rfl, Nat.le_of_ble_eq_true rfl⟩) hS (fun q _ h => hFc q h) hFc (fun r_5 u t H1 locs ht hvm hw hB hz1 hk1 hS => ?_)
      obtain ⟨hP1, hK1, hD1⟩ := hB
      rw [ht] at hP1
      obtain ⟨hP, hD⟩ := va_join (wr := [(x0, .inr (10, [.ref xTape, .ref xReader, .ref xBag, .ref xBld, .ref xAng, .ref xSum, .ref xPik, .int 0, .ref xHan, .ref xIns, .ref xShr, .ref xSta, .ref xTur])), (xSum, .inr (8, [.ref sM, .ref sP, .ref sA, .int 0])), (hH, .inl (cI, 7, (.inl (upd (fun _ => 0) (0 : Int32).toNatClampNeg 1)))), (hT, .inl (cJ, 7, (.inr (.inl (vp_updL (fun _ => 0) (0 : Int32).toNatClampNeg 1)))))]) (w1 := [(xHan, .inr (3, [.int 0, .int 1, .int 1, .ref hH, .ref hR, .ref hT, .ref hM])), (hM, .inl (cJ, 6, (.inr (.inl (vp_updL (fun _ => 0) (0 : Int32).toNatClampNeg 1)))))]) hP hD [1, 5] [0, 2, 3, 4] rfl rfl (by decide) (by decide) hk1 hFc hP1 hD1
      generalize H1 = H at hP hS ⊢
      have hP : va_P (dC, dI) vwCl [(x0, .inr (10, [.ref xTape, .ref xReader, .ref xBag, .ref xBld, .ref xAng, .ref xSum, .ref xPik, .int 0, .ref xHan, .ref xIns, .ref xShr, .ref xSta, .ref xTur])), (xSum, .inr (8, [.ref sM, .ref sP, .ref sA, .int 0])), (hH, .inl (cI, 7, (.inl (upd (fun _ => 0) (0 : Int32).toNatClampNeg 1)))), (hT, .inl (cJ, 7, (.inr (.inl (vp_updL (fun _ => 0) (0 : Int32).toNatClampNeg 1))))), (xHan, .inr (3, [.int 0, .int 1, .int 1, .ref hH, .ref hR, .ref hT, .ref hM])), (hM, .inl (cJ, 6, (.inr (.inl (vp_updL (fun _ => 0) (0 : Int32).toNatClampNeg 1)))))] H := hP
      have hD : va_D A [(x0, .inr (10, [.ref xTape, .ref xReader, .ref xBag, .ref xBld, .ref xAng, .ref xSum, .ref xPik, .int 0, .ref xHan, .ref xIns, .ref xShr, .ref xSta, .ref xTur])), (xSum, .inr (8, [.ref sM, .ref sP, .ref sA, .int 0])), (hH, .inl (cI, 7, (.inl (upd (fun _ => 0) (0 : Int32).toNatClampNeg 1)))), (hT, .inl (cJ, 7, (.inr (.inl (vp_updL (fun _ => 0) (0 : Int32).toNatClampNeg 1))))), (xHan, .inr (3, [.int 0, .int 1, .int 1, .ref hH, .ref hR, .ref hT, .ref hM])), (hM, .inl (cJ, 6, (.inr (.inl (vp_updL (fun _ => 0) (0 : Int32).toNatClampNeg 1)))))] := hD
      have hr_5 := hw
      obtain rfl : r_5 = 1 := hr_5
      refine lv_if_ne (tgt := 35) hx hb dX10_relationOf_29 (by decide) (fun _ => ?_) (fun c => absurd c (by decide))
      rcases nk_split4 p1 (by (try simp only [nk_lt, nk_le, nk_eq, nk_wd, nk_c0, nk_c1, nk_c2, nk_c3, nk_c4, nk_c5, nk_c6, nk_c15, nk_c16, nk_c24, nk_c47, nk_c48, nk_c600, nk_c1728, nk_m1, nk_l0, nk_l1, nk_l2, nk_l3, nk_l5, nk_l15, nk_l24, nk_l47] at k_4); omega) with rfl | rfl | rfl | rfl
      · refine lv_iload_n hx hb dX10_relationOf_35 rfl (lv_at hl 1 rfl) ?_
        refine lv_iload_n hx hb dX10_relationOf_36 rfl (lv_at hl 2 rfl) ?_
        refine lv_ishr hx hb dX10_relationOf_37 ?_
        refine lv_topi (fun x_6 ex_6 => ?_)
        obtain rfl : x_6 = 2 := ex_6.trans (by first | rfl | decide)
        refine lv_iconst (v := 1) hx hb dX10_relationOf_38 (by decide) ?_
        refine lv_iand hx hb dX10_relationOf_39 ?_
        refine lv_topi (fun x_7 ex_7 => ?_)
        obtain rfl : x_7 = 0 := ex_7.trans (by first | rfl | decide)
        refine lv_if_ne (tgt := 45) hx hb dX10_relationOf_40 (by decide) (fun c => absurd (by decide) c) (fun _ => ?_)
        refine lv_iconst (v := 0) hx hb dX10_relationOf_43 (by decide) ?_
        refine W.widen (k := 0) (n := 0) (Nat.le_of_ble_eq_true rfl) (Nat.le_of_ble_eq_true rfl) ?_
        exact W.iret (v := 0) hx hb hr (fun t ht hW => ⟨⟨0, (), rfl, (by decide), trivial⟩, hS.F ht⟩) hS.2.2 dX10_relationOf_44
      · refine lv_iload_n hx hb dX10_relationOf_35 rfl (lv_at hl 1 rfl) ?_
        refine lv_iload_n hx hb dX10_relationOf_36 rfl (lv_at hl 2 rfl) ?_
        refine lv_ishr hx hb dX10_relationOf_37 ?_
        refine lv_topi (fun x_8 ex_8 => ?_)
        obtain rfl : x_8 = 1 := ex_8.trans (by first | rfl | decide)
        refine lv_iconst (v := 1) hx hb dX10_relationOf_38 (by decide) ?_
        refine lv_iand hx hb dX10_relationOf_39 ?_
        refine lv_topi (fun x_9 ex_9 => ?_)
        obtain rfl : x_9 = 1 := ex_9.trans (by first | rfl | decide)
        refine lv_if_ne (tgt := 45) hx hb dX10_relationOf_40 (by decide) (fun _ => ?_) (fun c => absurd c (by decide))
        refine lv_aload_n hx hb dX10_relationOf_45 rfl (lv_at hl 0 rfl) ?_
        refine va_get (D := (dC, dI)) (ci := 10) (v := .ref xHan) (C := RX10) (T := TX10) (N := 13) hx hb hts hiX10 hown hK hP 0 rfl rfl 8 (by decide) (hts (.fieldLink RX10 61 "ScissorsTable" "hang" "LScissorsTable$Hang;") (by decide +kernel)) (fun _ h9 => h9) rfl dX10_relationOf_46 ?_
        refine lv_iload_n hx hb dX10_relationOf_49 rfl (lv_at hl 1 rfl) ?_
        refine lv_iconst (v := 1) hx hb dX10_relationOf_50 (by decide) ?_
        refine lv_iload_n hx hb dX10_relationOf_51 rfl (lv_at hl 2 rfl) ?_
        refine lv_ishl hx hb dX10_relationOf_52 ?_
        refine lv_topi (fun x_10 ex_10 => ?_)
        obtain rfl : x_10 = 2 := ex_10.trans (by first | rfl | decide)
        refine lv_iconst (v := 1) hx hb dX10_relationOf_53 (by decide) ?_
        refine lv_isub hx hb dX10_relationOf_54 ?_
        refine lv_topi (fun x_11 ex_11 => ?_)
        obtain rfl : x_11 = 1 := ex_11.trans (by first | rfl | decide)
        refine lv_iand hx hb dX10_relationOf_55 ?_
        refine lv_topi (fun x_12 ex_12 => ?_)
        obtain rfl : x_12 = 0 := ex_12.trans (by first | rfl | decide)
        have hPc := hP.sub (ws' := []) [] rfl
        have hDc := hD.sub (ws' := []) [] (by decide) rfl
        have hFc := va_free (wc := []) hD hS hA [] rfl
        refine va_calli (va_runS (As := [.int 0]) (rest := [.ref xHan]) ⟨hx, hb, hml, hown, hts⟩ (c_J6_bitCount_0f7a4_0 l dC dI cB cI cJ H.size ) (va_cwS 1 hts gX10_relationOf_J6_bitCount_0f7a4 rfl rfl rfl (by decide +kernel) ⟨Nat.le_of_ble_eq_true rfl, Nat.le_of_ble_eq_true rfl⟩) ⟨fun a U g mk q => by obtain ⟨q0, q1, qP, qK, qD⟩ := q; exact ⟨q0, q1, qP, va_K.moved (u := U) (U := U.calling g mk a) (Vm.Alike.refl U.vm) qK, qD⟩, fun U hU hW => ⟨rfl, by rw [hU], by rw [hU]; exact hPc, va_K.moved hW.alike hK, hDc.weaken (fun _ _ _ _ => trivial)⟩⟩ rfl rfl hl.1 rfl (lv_room (Nat.le_of_ble_eq_true rfl)) dX10_relationOf_56 ⟨Nat.le_of_ble_eq_true rfl, Nat.le_of_ble_eq_true rfl⟩) hS (fun q _ h => hFc q h) hFc (fun r_13 u t H1 locs ht hvm hw hB hz1 hk1 hS => ?_)
        have hP1 : va_P (dC, dI) vwCl [] H1 := fun k q h => by simp at h
        have hD1 : va_D (va_A [] H.size) [] := ⟨fun i j p q h => by simp at h, fun k q h => by simp at h⟩
        obtain ⟨hP, hD⟩ := va_join (wr := [(x0, .inr (10, [.ref xTape, .ref xReader, .ref xBag, .ref xBld, .ref xAng, .ref xSum, .ref xPik, .int 0, .ref xHan, .ref xIns, .ref xShr, .ref xSta, .ref xTur])), (xSum, .inr (8, [.ref sM, .ref sP, .ref sA, .int 0])), (hH, .inl (cI, 7, (.inl (upd (fun _ => 0) (0 : Int32).toNatClampNeg 1)))), (hT, .inl (cJ, 7, (.inr (.inl (vp_updL (fun _ => 0) (0 : Int32).toNatClampNeg 1))))), (xHan, .inr (3, [.int 0, .int 1, .int 1, .ref hH, .ref hR, .ref hT, .ref hM])), (hM, .inl (cJ, 6, (.inr (.inl (vp_updL (fun _ => 0) (0 : Int32).toNatClampNeg 1)))))]) (w1 := []) hP hD [] [0, 1, 2, 3, 4, 5] rfl rfl (by decide) (by decide) hk1 hFc hP1 hD1
        generalize H1 = H at hP hS ⊢
        have hP : va_P (dC, dI) vwCl [(x0, .inr (10, [.ref xTape, .ref xReader, .ref xBag, .ref xBld, .ref xAng, .ref xSum, .ref xPik, .int 0, .ref xHan, .ref xIns, .ref xShr, .ref xSta, .ref xTur])), (xSum, .inr (8, [.ref sM, .ref sP, .ref sA, .int 0])), (hH, .inl (cI, 7, (.inl (upd (fun _ => 0) (0 : Int32).toNatClampNeg 1)))), (hT, .inl (cJ, 7, (.inr (.inl (vp_updL (fun _ => 0) (0 : Int32).toNatClampNeg 1))))), (xHan, .inr (3, [.int 0, .int 1, .int 1, .ref hH, .ref hR, .ref hT, .ref hM])), (hM, .inl (cJ, 6, (.inr (.inl (vp_updL (fun _ => 0) (0 : Int32).toNatClampNeg 1)))))] H := hP
        have hD : va_D A [(x0, .inr (10, [.ref xTape, .ref xReader, .ref xBag, .ref xBld, .ref xAng, .ref xSum, .ref xPik, .int 0, .ref xHan, .ref xIns, .ref xShr, .ref xSta, .ref xTur])), (xSum, .inr (8, [.ref sM, .ref sP, .ref sA, .int 0])), (hH, .inl (cI, 7, (.inl (upd (fun _ => 0) (0 : Int32).toNatClampNeg 1)))), (hT, .inl (cJ, 7, (.inr (.inl (vp_updL (fun _ => 0) (0 : Int32).toNatClampNeg 1))))), (xHan, .inr (3, [.int 0, .int 1, .int 1, .ref hH, .ref hR, .ref hT, .ref hM])), (hM, .inl (cJ, 6, (.inr (.inl (vp_updL (fun _ => 0) (0 : Int32).toNatClampNeg 1)))))] := hD
        have hr_13 := hw
        obtain rfl : r_13 = 0 := hr_13
        have hPc := hP.sub (ws' := [(xHan, .inr (3, [.int 0, .int 1, .int 1, .ref hH, .ref hR, .ref hT, .ref hM])), (hM, .inl (cJ, 6, (.inr (.inl (vp_updL (fun _ => 0) (0 : Int32).toNatClampNeg 1)))))]) [4, 5] rfl
        have hDc := hD.sub (ws' := [(xHan, .inr (3, [.int 0, .int 1, .int 1, .ref hH, .ref hR, .ref hT, .ref hM])), (hM, .inl (cJ, 6, (.inr (.inl (vp_updL (fun _ => 0) (0 : Int32).toNatClampNeg 1)))))]) [4, 5] (by decide) rfl
        have hFc := va_free (wc := [(xHan, .inr (3, [.int 0, .int 1, .int 1, .ref hH, .ref hR, .ref hT, .ref hM])), (hM, .inl (cJ, 6, (.inr (.inl (vp_updL (fun _ => 0) (0 : Int32).toNatClampNeg 1)))))]) hD hS hA [4, 5] rfl
        refine va_calli (va_runV (As := [.int 0]) (rest := []) ⟨hx, hb, hml, hown, hts⟩ (c_X3_timesOf_t1_0 l dC dI cB cI cJ H.size xHan hH hR hT hM) (cwV 1 hts gX10_relationOf_X3_timesOf rfl rfl rfl (by decide +kernel) ⟨Nat.le_of_ble_eq_true rfl, Nat.le_of_ble_eq_true rfl⟩) ⟨fun a U g mk q => by obtain ⟨q0, q1, qP, qK, qD⟩ := q; exact ⟨q0, q1, qP, va_K.moved (u := U) (U := U.calling g mk a) (Vm.Alike.refl U.vm) qK, qD⟩, va_recv hK hP (ci := 3) (q0 := 4) rfl rfl, fun U hU hW => ⟨rfl, by rw [hU], by rw [hU]; exact hPc, va_K.moved hW.alike hK, hDc.weaken (fun _ _ _ _ => trivial)⟩⟩ rfl rfl hl.1 rfl (lv_room (Nat.le_of_ble_eq_true rfl)) dX10_relationOf_59 ⟨Nat.le_of_ble_eq_true rfl, Nat.le_of_ble_eq_true rfl⟩) hS (fun q _ h => hFc q h) hFc (fun r_14 u t H1 locs ht hvm hw hB hz1 hk1 hS => ?_)
        have hP1 : va_P (dC, dI) vwCl [] H1 := fun k q h => by simp at h
        have hD1 : va_D (va_A [(xHan, .inr (3, [.int 0, .int 1, .int 1, .ref hH, .ref hR, .ref hT, .ref hM])), (hM, .inl (cJ, 6, (.inr (.inl (vp_updL (fun _ => 0) (0 : Int32).toNatClampNeg 1)))))] H.size) [] := ⟨fun i j p q h => by simp at h, fun k q h => by simp at h⟩
        obtain ⟨hP, hD⟩ := va_join (wr := [(x0, .inr (10, [.ref xTape, .ref xReader, .ref xBag, .ref xBld, .ref xAng, .ref xSum, .ref xPik, .int 0, .ref xHan, .ref xIns, .ref xShr, .ref xSta, .ref xTur])), (xSum, .inr (8, [.ref sM, .ref sP, .ref sA, .int 0])), (hH, .inl (cI, 7, (.inl (upd (fun _ => 0) (0 : Int32).toNatClampNeg 1)))), (hT, .inl (cJ, 7, (.inr (.inl (vp_updL (fun _ => 0) (0 : Int32).toNatClampNeg 1)))))]) (w1 := []) hP hD [4, 5] [0, 1, 2, 3] rfl rfl (by decide) (by decide) hk1 hFc hP1 hD1
        generalize H1 = H at hP hS ⊢
        have hP : va_P (dC, dI) vwCl [(x0, .inr (10, [.ref xTape, .ref xReader, .ref xBag, .ref xBld, .ref xAng, .ref xSum, .ref xPik, .int 0, .ref xHan, .ref xIns, .ref xShr, .ref xSta, .ref xTur])), (xSum, .inr (8, [.ref sM, .ref sP, .ref sA, .int 0])), (hH, .inl (cI, 7, (.inl (upd (fun _ => 0) (0 : Int32).toNatClampNeg 1)))), (hT, .inl (cJ, 7, (.inr (.inl (vp_updL (fun _ => 0) (0 : Int32).toNatClampNeg 1)))))] H := hP
        have hD : va_D A [(x0, .inr (10, [.ref xTape, .ref xReader, .ref xBag, .ref xBld, .ref xAng, .ref xSum, .ref xPik, .int 0, .ref xHan, .ref xIns, .ref xShr, .ref xSta, .ref xTur])), (xSum, .inr (8, [.ref sM, .ref sP, .ref sA, .int 0])), (hH, .inl (cI, 7, (.inl (upd (fun _ => 0) (0 : Int32).toNatClampNeg 1)))), (hT, .inl (cJ, 7, (.inr (.inl (vp_updL (fun _ => 0) (0 : Int32).toNatClampNeg 1)))))] := hD
        have hr_14 := hw
        obtain rfl : r_14 = 1 := hr_14
        refine W.widen (k := 0) (n := 0) (Nat.le_of_ble_eq_true rfl) (Nat.le_of_ble_eq_true rfl) ?_
        exact W.iret (v := 1) hx hb hr (fun t ht hW => ⟨⟨1, (), rfl, (by decide), trivial⟩, hS.F ht⟩) hS.2.2 dX10_relationOf_62
      · refine lv_iload_n hx hb dX10_relationOf_35 rfl (lv_at hl 1 rfl) ?_
        refine lv_iload_n hx hb dX10_relationOf_36 rfl (lv_at hl 2 rfl) ?_
        refine lv_ishr hx hb dX10_relationOf_37 ?_
        refine lv_topi (fun x_15 ex_15 => ?_)
        obtain rfl : x_15 = 0 := ex_15.trans (by first | rfl | decide)
        refine lv_iconst (v := 1) hx hb dX10_relationOf_38 (by decide) ?_
        refine lv_iand hx hb dX10_relationOf_39 ?_
        refine lv_topi (fun x_16 ex_16 => ?_)
        obtain rfl : x_16 = 0 := ex_16.trans (by first | rfl | decide)
        refine lv_if_ne (tgt := 45) hx hb dX10_relationOf_40 (by decide) (fun c => absurd (by decide) c) (fun _ => ?_)
        refine lv_iconst (v := 0) hx hb dX10_relationOf_43 (by decide) ?_
        refine W.widen (k := 0) (n := 0) (Nat.le_of_ble_eq_true rfl) (Nat.le_of_ble_eq_true rfl) ?_
        exact W.iret (v := 0) hx hb hr (fun t ht hW => ⟨⟨0, (), rfl, (by decide), trivial⟩, hS.F ht⟩) hS.2.2 dX10_relationOf_44
      · refine lv_iload_n hx hb dX10_relationOf_35 rfl (lv_at hl 1 rfl) ?_
        refine lv_iload_n hx hb dX10_relationOf_36 rfl (lv_at hl 2 rfl) ?_
        refine lv_ishr hx hb dX10_relationOf_37 ?_
        refine lv_topi (fun x_17 ex_17 => ?_)
        obtain rfl : x_17 = 0 := ex_17.trans (by first | rfl | decide)
        refine lv_iconst (v := 1) hx hb dX10_relationOf_38 (by decide) ?_
        refine lv_iand hx hb dX10_relationOf_39 ?_
        refine lv_topi (fun x_18 ex_18 => ?_)
        obtain rfl : x_18 = 0 := ex_18.trans (by first | rfl | decide)
        refine lv_if_ne (tgt := 45) hx hb dX10_relationOf_40 (by decide) (fun c => absurd (by decide) c) (fun _ => ?_)
        refine lv_iconst (v := 0) hx hb dX10_relationOf_43 (by decide) ?_
        refine W.widen (k := 0) (n := 0) (Nat.le_of_ble_eq_true rfl) (Nat.le_of_ble_eq_true rfl) ?_
        exact W.iret (v := 0) hx hb hr (fun t ht hW => ⟨⟨0, (), rfl, (by decide), trivial⟩, hS.F ht⟩) hS.2.2 dX10_relationOf_44
set_option maxHeartbeats 4000000 in
set_option maxRecDepth 100000 in
theorem c_X10_relationOf_3 (l : Launch) (dC : Nat → ClassId) (dI : Nat → Nat → Nat) (cB cI cJ : ClassId) (sz : Nat) (x0 xTape xReader xBag xBld xAng xSum xPik xHan xIns xShr xSta xTur sM sP sA hH hR hT hM : Nat) (p1 : Int32) : Met l yX10_relationOf wsX10_relationOf ({ frames := 12, cells := 0, slots := 0, locals := 400 }) (va_Pc [.ref x0, .int 3, .int p1] (fun U => U.heap.size = sz ∧ va_P (dC, dI) vwCl [(x0, .inr (10, [.ref xTape, .ref xReader, .ref xBag, .ref xBld, .ref xAng, .ref xSum, .ref xPik, .int 0, .ref xHan, .ref xIns, .ref xShr, .ref xSta, .ref xTur])), (xSum, .inr (8, [.ref sM, .ref sP, .ref sA, .int 0])), (xHan, .inr (3, [.int 0, .int 0, .int 0, .ref hH, .ref hR, .ref hT, .ref hM])), (hH, .inl (cI, 7, (.inl (fun _ => 0)))), (hT, .inl (cJ, 7, (.inr (.inl (fun _ => 0))))), (hM, .inl (cJ, 6, (.inr (.inl (fun _ => 0)))))] U.heap ∧ va_K (dC, dI) vwCl [(cB, .byte), (cI, .int), (cJ, .long)] U ∧ va_D (fun _ => True) [(x0, .inr (10, [.ref xTape, .ref xReader, .ref xBag, .ref xBld, .ref xAng, .ref xSum, .ref xPik, .int 0, .ref xHan, .ref xIns, .ref xShr, .ref xSta, .ref xTur])), (xSum, .inr (8, [.ref sM, .ref sP, .ref sA, .int 0])), (xHan, .inr (3, [.int 0, .int 0, .int 0, .ref hH, .ref hR, .ref hT, .ref hM])), (hH, .inl (cI, 7, (.inl (fun _ => 0)))), (hT, .inl (cJ, 7, (.inr (.inl (fun _ => 0))))), (hM, .inl (cJ, 6, (.inr (.inl (fun _ => 0)))))] ∧ va_Nw (.methodLinkNest RX3 62 yX10_gcd "ScissorsTable") U)) (va_Qi (fun (r : Int32) (_ : Unit) => r = sp_rel 3 p1) (fun _ _ => True) (va_A [(x0, .inr (10, [.ref xTape, .ref xReader, .ref xBag, .ref xBld, .ref xAng, .ref xSum, .ref xPik, .int 0, .ref xHan, .ref xIns, .ref xShr, .ref xSta, .ref xTur])), (xSum, .inr (8, [.ref sM, .ref sP, .ref sA, .int 0])), (xHan, .inr (3, [.int 0, .int 0, .int 0, .ref hH, .ref hR, .ref hT, .ref hM])), (hH, .inl (cI, 7, (.inl (fun _ => 0)))), (hT, .inl (cJ, 7, (.inr (.inl (fun _ => 0))))), (hM, .inl (cJ, 6, (.inr (.inl (fun _ => 0)))))] sz)) 0 0 (va_A [(x0, .inr (10, [.ref xTape, .ref xReader, .ref xBag, .ref xBld, .ref xAng, .ref xSum, .ref xPik, .int 0, .ref xHan, .ref xIns, .ref xShr, .ref xSta, .ref xTur])), (xSum, .inr (8, [.ref sM, .ref sP, .ref sA, .int 0])), (xHan, .inr (3, [.int 0, .int 0, .int 0, .ref hH, .ref hR, .ref hT, .ref hM])), (hH, .inl (cI, 7, (.inl (fun _ => 0)))), (hT, .inl (cJ, 7, (.inr (.inl (fun _ => 0))))), (hM, .inl (cJ, 6, (.inr (.inl (fun _ => 0)))))] sz) := by
  refine Met.ofW (cc := cX10_relationOf) (maxL := 3) (ret := (some .int)) (by decide) rfl ?_
  intro p e s m args below meth c s₁ B hml hv
  obtain ⟨rfl, hsz, hP, hK, hD0, hN0⟩ := hv
  have hx := B.exec
  have hb := B.bytes
  have hr := B.returns
  have hts := atoms_spec (ws := wsX10_relationOf) B.pre
  have hown : s.vm.findClass RX10 = some m.cls := findClass_of_methodNamed B.named
  have hlocks := B.notSynchronized
  have hiX10 : ∀ w ∈ u_ws RX10 TX10 13, w ∈ wsX10_relationOf := by decide +kernel
  subst hsz
  have hD := hD0.self (sz := s.heap.size)
  generalize hAe : va_A [(x0, .inr (10, [.ref xTape, .ref xReader, .ref xBag, .ref xBld, .ref xAng, .ref xSum, .ref xPik, .int 0, .ref xHan, .ref xIns, .ref xShr, .ref xSta, .ref xTur])), (xSum, .inr (8, [.ref sM, .ref sP, .ref sA, .int 0])), (xHan, .inr (3, [.int 0, .int 0, .int 0, .ref hH, .ref hR, .ref hT, .ref hM])), (hH, .inl (cI, 7, (.inl (fun _ => 0)))), (hT, .inl (cJ, 7, (.inr (.inl (fun _ => 0))))), (hM, .inl (cJ, 6, (.inr (.inl (fun _ => 0)))))] s.heap.size = A at hD ⊢
  have hA : ∀ q : Nat, s.heap.size ≤ q → A q := fun q h => by rw [← hAe]; exact Or.inr h
  have hS : va_S A s.heap s.heap [] := va_S.rf
  have hP : va_P (dC, dI) vwCl [(x0, .inr (10, [.ref xTape, .ref xReader, .ref xBag, .ref xBld, .ref xAng, .ref xSum, .ref xPik, .int 0, .ref xHan, .ref xIns, .ref xShr, .ref xSta, .ref xTur])), (xSum, .inr (8, [.ref sM, .ref sP, .ref sA, .int 0])), (xHan, .inr (3, [.int 0, .int 0, .int 0, .ref hH, .ref hR, .ref hT, .ref hM])), (hH, .inl (cI, 7, (.inl (fun _ => 0)))), (hT, .inl (cJ, 7, (.inr (.inl (fun _ => 0))))), (hM, .inl (cJ, 6, (.inr (.inl (fun _ => 0)))))] s.heap := hP
  have hl := lv_entry ([.ref x0, .int 3, .int p1]) (n := 3) (Nat.le_of_ble_eq_true rfl)
  rw [lg_entry_eq]
  generalize (lg_sl ([.ref x0, .int 3, .int p1]) ++ List.replicate (3 - (lg_sl ([.ref x0, .int 3, .int p1])).length) Slot.unset).toArray = ls at hl ⊢
  have hl : lv_has ls 3 [(0, .ref x0), (1, .int 3), (2, .int p1)] := hl
  refine lv_iload_n hx hb dX10_relationOf_0 rfl (lv_at hl 1 rfl) ?_
  have hPc := hP.sub (ws' := []) [] rfl
  have hDc := hD.sub (ws' := []) [] (by decide) rfl
  have hFc := va_free (wc := []) hD hS hA [] rfl
  refine va_calli (va_runS (As := [.int 3]) (rest := []) ⟨hx, hb, hml, hown, hts⟩ (c_X10_isSetOfSolids l dC dI cB cI cJ s.heap.size 3) (va_cwS 1 hts gX10_relationOf_X10_isSetOfSolids rfl rfl rfl (by decide +kernel) ⟨Nat.le_of_ble_eq_true rfl, Nat.le_of_ble_eq_true rfl⟩) ⟨fun a U g mk q => by obtain ⟨q0, q1, qP, qK, qD⟩ := q; exact ⟨q0, q1, qP, va_K.moved (u := U) (U := U.calling g mk a) (Vm.Alike.refl U.vm) qK, qD⟩, fun U hU hW => ⟨rfl, by rw [hU], by rw [hU]; exact hPc, va_K.moved hW.alike hK, hDc.weaken (fun _ _ _ _ => trivial)⟩⟩ rfl rfl hl.1 rfl (lv_room (Nat.le_of_ble_eq_true rfl)) dX10_relationOf_1 ⟨Nat.le_of_ble_eq_true rfl, Nat.le_of_ble_eq_true rfl⟩) hS (fun q _ h => hFc q h) hFc (fun r_1 u t H1 locs ht hvm hw hB hz1 hk1 hS => ?_)
  have hP1 : va_P (dC, dI) vwCl [] H1 := fun k q h => by simp at h
  have hD1 : va_D (va_A [] s.heap.size) [] := ⟨fun i j p q h => by simp at h, fun k q h => by simp at h⟩
  obtain ⟨hP, hD⟩ := va_join (wr := [(x0, .inr (10, [.ref xTape, .ref xReader, .ref xBag, .ref xBld, .ref xAng, .ref xSum, .ref xPik, .int 0, .ref xHan, .ref xIns, .ref xShr, .ref xSta, .ref xTur])), (xSum, .inr (8, [.ref sM, .ref sP, .ref sA, .int 0])), (xHan, .inr (3, [.int 0, .int 0, .int 0, .ref hH, .ref hR, .ref hT, .ref hM])), (hH, .inl (cI, 7, (.inl (fun _ => 0)))), (hT, .inl (cJ, 7, (.inr (.inl (fun _ => 0))))), (hM, .inl (cJ, 6, (.inr (.inl (fun _ => 0)))))]) (w1 := []) hP hD [] [0, 1, 2, 3, 4, 5] rfl rfl (by decide) (by decide) hk1 hFc hP1 hD1
  generalize H1 = H at hP hS ⊢
  have hP : va_P (dC, dI) vwCl [(x0, .inr (10, [.ref xTape, .ref xReader, .ref xBag, .ref xBld, .ref xAng, .ref xSum, .ref xPik, .int 0, .ref xHan, .ref xIns, .ref xShr, .ref xSta, .ref xTur])), (xSum, .inr (8, [.ref sM, .ref sP, .ref sA, .int 0])), (xHan, .inr (3, [.int 0, .int 0, .int 0, .ref hH, .ref hR, .ref hT, .ref hM])), (hH, .inl (cI, 7, (.inl (fun _ => 0)))), (hT, .inl (cJ, 7, (.inr (.inl (fun _ => 0))))), (hM, .inl (cJ, 6, (.inr (.inl (fun _ => 0)))))] H := hP
  have hD : va_D A [(x0, .inr (10, [.ref xTape, .ref xReader, .ref xBag, .ref xBld, .ref xAng, .ref xSum, .ref xPik, .int 0, .ref xHan, .ref xIns, .ref xShr, .ref xSta, .ref xTur])), (xSum, .inr (8, [.ref sM, .ref sP, .ref sA, .int 0])), (xHan, .inr (3, [.int 0, .int 0, .int 0, .ref hH, .ref hR, .ref hT, .ref hM])), (hH, .inl (cI, 7, (.inl (fun _ => 0)))), (hT, .inl (cJ, 7, (.inr (.inl (fun _ => 0))))), (hM, .inl (cJ, 6, (.inr (.inl (fun _ => 0)))))] := hD
  rcases hw with ⟨rfl, k_2⟩ | ⟨rfl, k_2⟩
  · refine lv_if_eq (tgt := 14) hx hb dX10_relationOf_4 (by decide) (fun _ => ?_) (fun c => absurd (by decide) c)
    refine lv_ldc (v := (-1000000)) hx hb hown (hts (.constant RX10 140 (-1000000)) (by decide +kernel)) dX10_relationOf_14 ?_
    refine W.widen (k := 0) (n := 0) (Nat.le_of_ble_eq_true rfl) (Nat.le_of_ble_eq_true rfl) ?_
    exact W.iret (v := (-1000000)) hx hb hr (fun t ht hW => ⟨⟨(-1000000), (), rfl, (absurd (by decide) k_2), trivial⟩, hS.F ht⟩) hS.2.2 dX10_relationOf_16
  · refine lv_if_eq (tgt := 14) hx hb dX10_relationOf_4 (by decide) (fun c => absurd c (by decide)) (fun _ => ?_)
    refine lv_iload_n hx hb dX10_relationOf_7 rfl (lv_at hl 2 rfl) ?_
    have hPc := hP.sub (ws' := []) [] rfl
    have hDc := hD.sub (ws' := []) [] (by decide) rfl
    have hFc := va_free (wc := []) hD hS hA [] rfl
    refine va_calli (va_runS (As := [.int p1]) (rest := []) ⟨hx, hb, hml, hown, hts⟩ (c_X10_isSolid l dC dI cB cI cJ H.size p1) (va_cwS 1 hts gX10_relationOf_X10_isSolid rfl rfl rfl (by decide +kernel) ⟨Nat.le_of_ble_eq_true rfl, Nat.le_of_ble_eq_true rfl⟩) ⟨fun a U g mk q => by obtain ⟨q0, q1, qP, qK, qD⟩ := q; exact ⟨q0, q1, qP, va_K.moved (u := U) (U := U.calling g mk a) (Vm.Alike.refl U.vm) qK, qD⟩, fun U hU hW => ⟨rfl, by rw [hU], by rw [hU]; exact hPc, va_K.moved hW.alike hK, hDc.weaken (fun _ _ _ _ => trivial)⟩⟩ rfl rfl hl.1 rfl (lv_room (Nat.le_of_ble_eq_true rfl)) dX10_relationOf_8 ⟨Nat.le_of_ble_eq_true rfl, Nat.le_of_ble_eq_true rfl⟩) hS (fun q _ h => hFc q h) hFc (fun r_3 u t H1 locs ht hvm hw hB hz1 hk1 hS => ?_)
    have hP1 : va_P (dC, dI) vwCl [] H1 := fun k q h => by simp at h
    have hD1 : va_D (va_A [] H.size) [] := ⟨fun i j p q h => by simp at h, fun k q h => by simp at h⟩
    obtain ⟨hP, hD⟩ := va_join (wr := [(x0, .inr (10, [.ref xTape, .ref xReader, .ref xBag, .ref xBld, .ref xAng, .ref xSum, .ref xPik, .int 0, .ref xHan, .ref xIns, .ref xShr, .ref xSta, .ref xTur])), (xSum, .inr (8, [.ref sM, .ref sP, .ref sA, .int 0])), (xHan, .inr (3, [.int 0, .int 0, .int 0, .ref hH, .ref hR, .ref hT, .ref hM])), (hH, .inl (cI, 7, (.inl (fun _ => 0)))), (hT, .inl (cJ, 7, (.inr (.inl (fun _ => 0))))), (hM, .inl (cJ, 6, (.inr (.inl (fun _ => 0)))))]) (w1 := []) hP hD [] [0, 1, 2, 3, 4, 5] rfl rfl (by decide) (by decide) hk1 hFc hP1 hD1
    generalize H1 = H at hP hS ⊢
    have hP : va_P (dC, dI) vwCl [(x0, .inr (10, [.ref xTape, .ref xReader, .ref xBag, .ref xBld, .ref xAng, .ref xSum, .ref xPik, .int 0, .ref xHan, .ref xIns, .ref xShr, .ref xSta, .ref xTur])), (xSum, .inr (8, [.ref sM, .ref sP, .ref sA, .int 0])), (xHan, .inr (3, [.int 0, .int 0, .int 0, .ref hH, .ref hR, .ref hT, .ref hM])), (hH, .inl (cI, 7, (.inl (fun _ => 0)))), (hT, .inl (cJ, 7, (.inr (.inl (fun _ => 0))))), (hM, .inl (cJ, 6, (.inr (.inl (fun _ => 0)))))] H := hP
    have hD : va_D A [(x0, .inr (10, [.ref xTape, .ref xReader, .ref xBag, .ref xBld, .ref xAng, .ref xSum, .ref xPik, .int 0, .ref xHan, .ref xIns, .ref xShr, .ref xSta, .ref xTur])), (xSum, .inr (8, [.ref sM, .ref sP, .ref sA, .int 0])), (xHan, .inr (3, [.int 0, .int 0, .int 0, .ref hH, .ref hR, .ref hT, .ref hM])), (hH, .inl (cI, 7, (.inl (fun _ => 0)))), (hT, .inl (cJ, 7, (.inr (.inl (fun _ => 0))))), (hM, .inl (cJ, 6, (.inr (.inl (fun _ => 0)))))] := hD
    rcases hw with ⟨rfl, k_4⟩ | ⟨rfl, k_4⟩
    · refine lv_if_ne (tgt := 17) hx hb dX10_relationOf_11 (by decide) (fun c => absurd (by decide) c) (fun _ => ?_)
      refine lv_ldc (v := (-1000000)) hx hb hown (hts (.constant RX10 140 (-1000000)) (by decide +kernel)) dX10_relationOf_14 ?_
      refine W.widen (k := 0) (n := 0) (Nat.le_of_ble_eq_true rfl) (Nat.le_of_ble_eq_true rfl) ?_
      exact W.iret (v := (-1000000)) hx hb hr (fun t ht hW => ⟨⟨(-1000000), (), rfl, (show (-1000000 : Int32) = sp_rel 3 p1 from (by unfold sp_rel; rw [if_neg (fun h9 => k_4 h9.2)])), trivial⟩, hS.F ht⟩) hS.2.2 dX10_relationOf_16
    · refine lv_if_ne (tgt := 17) hx hb dX10_relationOf_11 (by decide) (fun _ => ?_) (fun c => absurd c (by decide))
      refine lv_aload_n hx hb dX10_relationOf_17 rfl (lv_at hl 0 rfl) ?_
      refine lv_iload_n hx hb dX10_relationOf_18 rfl (lv_at hl 1 rfl) ?_
      have hPc := hP.sub (ws' := [(x0, .inr (10, [.ref xTape, .ref xReader, .ref xBag, .ref xBld, .ref xAng, .ref xSum, .ref xPik, .int 0, .ref xHan, .ref xIns, .ref xShr, .ref xSta, .ref xTur])), (xSum, .inr (8, [.ref sM, .ref sP, .ref sA, .int 0])), (xHan, .inr (3, [.int 0, .int 0, .int 0, .ref hH, .ref hR, .ref hT, .ref hM])), (hH, .inl (cI, 7, (.inl (fun _ => 0)))), (hT, .inl (cJ, 7, (.inr (.inl (fun _ => 0))))), (hM, .inl (cJ, 6, (.inr (.inl (fun _ => 0)))))]) [0, 1, 2, 3, 4, 5] rfl
      have hDc := hD.sub (ws' := [(x0, .inr (10, [.ref xTape, .ref xReader, .ref xBag, .ref xBld, .ref xAng, .ref xSum, .ref xPik, .int 0, .ref xHan, .ref xIns, .ref xShr, .ref xSta, .ref xTur])), (xSum, .inr (8, [.ref sM, .ref sP, .ref sA, .int 0])), (xHan, .inr (3, [.int 0, .int 0, .int 0, .ref hH, .ref hR, .ref hT, .ref hM])), (hH, .inl (cI, 7, (.inl (fun _ => 0)))), (hT, .inl (cJ, 7, (.inr (.inl (fun _ => 0))))), (hM, .inl (cJ, 6, (.inr (.inl (fun _ => 0)))))]) [0, 1, 2, 3, 4, 5] (by decide) rfl
      have hFc := va_free (wc := [(x0, .inr (10, [.ref xTape, .ref xReader, .ref xBag, .ref xBld, .ref xAng, .ref xSum, .ref xPik, .int 0, .ref xHan, .ref xIns, .ref xShr, .ref xSta, .ref xTur])), (xSum, .inr (8, [.ref sM, .ref sP, .ref sA, .int 0])), (xHan, .inr (3, [.int 0, .int 0, .int 0, .ref hH, .ref hR, .ref hT, .ref hM])), (hH, .inl (cI, 7, (.inl (fun _ => 0)))), (hT, .inl (cJ, 7, (.inr (.inl (fun _ => 0))))), (hM, .inl (cJ, 6, (.inr (.inl (fun _ => 0)))))]) hD hS hA [0, 1, 2, 3, 4, 5] rfl
      refine va_callv (va_runV (As := [.int 3]) (rest := []) ⟨hx, hb, hml, hown, hts⟩ (c_X10_hangSolids_3 l dC dI cB cI cJ H.size x0 xTape xReader xBag xBld xAng xSum xPik xHan xIns xShr xSta xTur sM sP sA hH hR hT hM (fun _ => 0) (fun _ => 0)) (cwV 1 hts gX10_relationOf_X10_hangSolids rfl rfl rfl (by decide +kernel) ⟨Nat.le_of_ble_eq_true rfl, Nat.le_of_ble_eq_true rfl⟩) ⟨fun a U g mk q => by obtain ⟨q0, q1, qP, qK, qD, qN0⟩ := q; exact ⟨q0, q1, qP, va_K.moved (u := U) (U := U.calling g mk a) (Vm.Alike.refl U.vm) qK, qD, va_Nw.same rfl rfl qN0⟩, va_recv hK hP (ci := 10) (q0 := 0) rfl rfl, fun U hU hW => ⟨rfl, by rw [hU], by rw [hU]; exact hPc, va_K.moved hW.alike hK, hDc.weaken (fun _ _ _ _ => trivial), va_Nw.warmM hW hN0⟩⟩ rfl rfl hl.1 rfl (lv_room (Nat.le_of_ble_eq_true rfl)) dX10_relationOf_19 ⟨Nat.le_of_ble_eq_true rfl, Nat.le_of_ble_eq_true rfl⟩) hS (fun q _ h => hFc q h) hFc (fun u t H1 locs ht hvm hw hB hz1 hk1 hS => ?_)
      obtain ⟨hP1, hK1, hD1⟩ := hB
      rw [ht] at hP1
      obtain ⟨hP, hD⟩ := va_join (wr := []) (w1 := [(x0, .inr (10, [.ref xTape, .ref xReader, .ref xBag, .ref xBld, .ref xAng, .ref xSum, .ref xPik, .int 0, .ref xHan, .ref xIns, .ref xShr, .ref xSta, .ref xTur])), (xHan, .inr (3, [.int 0, .int 2, .int 1, .ref hH, .ref hR, .ref hT, .ref hM])), (xSum, .inr (8, [.ref sM, .ref sP, .ref sA, .int 0])), (hH, .inl (cI, 7, (.inl (upd (upd (fun _ => 0) (0 : Int32).toNatClampNeg 0) (0 : Int32).toNatClampNeg 1)))), (hT, .inl (cJ, 7, (.inr (.inl (vp_updL (vp_updL (fun _ => 0) (0 : Int32).toNatClampNeg 1) (0 : Int32).toNatClampNeg 1))))), (hM, .inl (cJ, 6, (.inr (.inl (vp_updL (fun _ => 0) (0 : Int32).toNatClampNeg 1)))))]) hP hD [0, 1, 2, 3, 4, 5] [] rfl rfl (by decide) (by decide) hk1 hFc hP1 hD1
      generalize H1 = H at hP hS ⊢
      have hP : va_P (dC, dI) vwCl [(x0, .inr (10, [.ref xTape, .ref xReader, .ref xBag, .ref xBld, .ref xAng, .ref xSum, .ref xPik, .int 0, .ref xHan, .ref xIns, .ref xShr, .ref xSta, .ref xTur])), (xHan, .inr (3, [.int 0, .int 2, .int 1, .ref hH, .ref hR, .ref hT, .ref hM])), (xSum, .inr (8, [.ref sM, .ref sP, .ref sA, .int 0])), (hH, .inl (cI, 7, (.inl (upd (upd (fun _ => 0) (0 : Int32).toNatClampNeg 0) (0 : Int32).toNatClampNeg 1)))), (hT, .inl (cJ, 7, (.inr (.inl (vp_updL (vp_updL (fun _ => 0) (0 : Int32).toNatClampNeg 1) (0 : Int32).toNatClampNeg 1))))), (hM, .inl (cJ, 6, (.inr (.inl (vp_updL (fun _ => 0) (0 : Int32).toNatClampNeg 1)))))] H := hP
      have hD : va_D A [(x0, .inr (10, [.ref xTape, .ref xReader, .ref xBag, .ref xBld, .ref xAng, .ref xSum, .ref xPik, .int 0, .ref xHan, .ref xIns, .ref xShr, .ref xSta, .ref xTur])), (xHan, .inr (3, [.int 0, .int 2, .int 1, .ref hH, .ref hR, .ref hT, .ref hM])), (xSum, .inr (8, [.ref sM, .ref sP, .ref sA, .int 0])), (hH, .inl (cI, 7, (.inl (upd (upd (fun _ => 0) (0 : Int32).toNatClampNeg 0) (0 : Int32).toNatClampNeg 1)))), (hT, .inl (cJ, 7, (.inr (.inl (vp_updL (vp_updL (fun _ => 0) (0 : Int32).toNatClampNeg 1) (0 : Int32).toNatClampNeg 1))))), (hM, .inl (cJ, 6, (.inr (.inl (vp_updL (fun _ => 0) (0 : Int32).toNatClampNeg 1)))))] := hD
      refine lv_aload_n hx hb dX10_relationOf_22 rfl (lv_at hl 0 rfl) ?_
      refine va_get (D := (dC, dI)) (ci := 10) (v := .ref xHan) (C := RX10) (T := TX10) (N := 13) hx hb hts hiX10 hown hK hP 0 rfl rfl 8 (by decide) (hts (.fieldLink RX10 61 "ScissorsTable" "hang" "LScissorsTable$Hang;") (by decide +kernel)) (fun _ h9 => h9) rfl dX10_relationOf_23 ?_
      have hPc := hP.sub (ws' := [(xHan, .inr (3, [.int 0, .int 2, .int 1, .ref hH, .ref hR, .ref hT, .ref hM])), (hM, .inl (cJ, 6, (.inr (.inl (vp_updL (fun _ => 0) (0 : Int32).toNatClampNeg 1)))))]) [1, 5] rfl
      have hDc := hD.sub (ws' := [(xHan, .inr (3, [.int 0, .int 2, .int 1, .ref hH, .ref hR, .ref hT, .ref hM])), (hM, .inl (cJ, 6, (.inr (.inl (vp_updL (fun _ => 0) (0 : Int32).toNatClampNeg 1)))))]) [1, 5] (by decide) rfl
      have hFc := va_free (wc := [(xHan, .inr (3, [.int 0, .int 2, .int 1, .ref hH, .ref hR, .ref hT, .ref hM])), (hM, .inl (cJ, 6, (.inr (.inl (vp_updL (fun _ => 0) (0 : Int32).toNatClampNeg 1)))))]) hD hS hA [1, 5] rfl
      refine va_calli (va_runV (As := []) (rest := []) ⟨hx, hb, hml, hown, hts⟩ (c_X3_canTell_t2 l dC dI cB cI cJ H.size xHan hH hR hT hM) (cwV 0 hts gX10_relationOf_X3_canTell rfl rfl rfl (by decide +kernel) ⟨Nat.le_of_ble_eq_true rfl, Nat.le_of_ble_eq_true rfl⟩) ⟨fun a U g mk q => by obtain ⟨q0, q1, qP, qK, qD⟩ := q; exact ⟨q0, q1, qP, va_K.moved (u := U) (U := U.calling g mk a) (Vm.Alike.refl U.vm) qK, qD⟩, va_recv hK hP (ci := 3) (q0 := 1) rfl rfl, fun U hU hW => ⟨rfl, by rw [hU], by rw [hU]; exact hPc, va_K.moved hW.alike hK, hDc.weaken (fun _ _ _ _ => trivial)⟩⟩ rfl rfl hl.1 rfl (lv_room (Nat.le_of_ble_eq_true rfl)) dX10_relationOf_26 ⟨Nat.le_of_ble_eq_true rfl, Nat.le_of_ble_eq_true rfl⟩) hS (fun q _ h => hFc q h) hFc (fun r_5 u t H1 locs ht hvm hw hB hz1 hk1 hS => ?_)
      obtain ⟨hP1, hK1, hD1⟩ := hB
      rw [ht] at hP1
      obtain ⟨hP, hD⟩ := va_join (wr := [(x0, .inr (10, [.ref xTape, .ref xReader, .ref xBag, .ref xBld, .ref xAng, .ref xSum, .ref xPik, .int 0, .ref xHan, .ref xIns, .ref xShr, .ref xSta, .ref xTur])), (xSum, .inr (8, [.ref sM, .ref sP, .ref sA, .int 0])), (hH, .inl (cI, 7, (.inl (upd (upd (fun _ => 0) (0 : Int32).toNatClampNeg 0) (0 : Int32).toNatClampNeg 1)))), (hT, .inl (cJ, 7, (.inr (.inl (vp_updL (vp_updL (fun _ => 0) (0 : Int32).toNatClampNeg 1) (0 : Int32).toNatClampNeg 1)))))]) (w1 := [(xHan, .inr (3, [.int 0, .int 2, .int 1, .ref hH, .ref hR, .ref hT, .ref hM])), (hM, .inl (cJ, 6, (.inr (.inl (vp_updL (fun _ => 0) (0 : Int32).toNatClampNeg 1)))))]) hP hD [1, 5] [0, 2, 3, 4] rfl rfl (by decide) (by decide) hk1 hFc hP1 hD1
      generalize H1 = H at hP hS ⊢
      have hP : va_P (dC, dI) vwCl [(x0, .inr (10, [.ref xTape, .ref xReader, .ref xBag, .ref xBld, .ref xAng, .ref xSum, .ref xPik, .int 0, .ref xHan, .ref xIns, .ref xShr, .ref xSta, .ref xTur])), (xSum, .inr (8, [.ref sM, .ref sP, .ref sA, .int 0])), (hH, .inl (cI, 7, (.inl (upd (upd (fun _ => 0) (0 : Int32).toNatClampNeg 0) (0 : Int32).toNatClampNeg 1)))), (hT, .inl (cJ, 7, (.inr (.inl (vp_updL (vp_updL (fun _ => 0) (0 : Int32).toNatClampNeg 1) (0 : Int32).toNatClampNeg 1))))), (xHan, .inr (3, [.int 0, .int 2, .int 1, .ref hH, .ref hR, .ref hT, .ref hM])), (hM, .inl (cJ, 6, (.inr (.inl (vp_updL (fun _ => 0) (0 : Int32).toNatClampNeg 1)))))] H := hP
      have hD : va_D A [(x0, .inr (10, [.ref xTape, .ref xReader, .ref xBag, .ref xBld, .ref xAng, .ref xSum, .ref xPik, .int 0, .ref xHan, .ref xIns, .ref xShr, .ref xSta, .ref xTur])), (xSum, .inr (8, [.ref sM, .ref sP, .ref sA, .int 0])), (hH, .inl (cI, 7, (.inl (upd (upd (fun _ => 0) (0 : Int32).toNatClampNeg 0) (0 : Int32).toNatClampNeg 1)))), (hT, .inl (cJ, 7, (.inr (.inl (vp_updL (vp_updL (fun _ => 0) (0 : Int32).toNatClampNeg 1) (0 : Int32).toNatClampNeg 1))))), (xHan, .inr (3, [.int 0, .int 2, .int 1, .ref hH, .ref hR, .ref hT, .ref hM])), (hM, .inl (cJ, 6, (.inr (.inl (vp_updL (fun _ => 0) (0 : Int32).toNatClampNeg 1)))))] := hD
      have hr_5 := hw
      obtain rfl : r_5 = 1 := hr_5
      refine lv_if_ne (tgt := 35) hx hb dX10_relationOf_29 (by decide) (fun _ => ?_) (fun c => absurd c (by decide))
      rcases nk_split4 p1 (by (try simp only [nk_lt, nk_le, nk_eq, nk_wd, nk_c0, nk_c1, nk_c2, nk_c3, nk_c4, nk_c5, nk_c6, nk_c15, nk_c16, nk_c24, nk_c47, nk_c48, nk_c600, nk_c1728, nk_m1, nk_l0, nk_l1, nk_l2, nk_l3, nk_l5, nk_l15, nk_l24, nk_l47] at k_4); omega) with rfl | rfl | rfl | rfl
      · refine lv_iload_n hx hb dX10_relationOf_35 rfl (lv_at hl 1 rfl) ?_
        refine lv_iload_n hx hb dX10_relationOf_36 rfl (lv_at hl 2 rfl) ?_
        refine lv_ishr hx hb dX10_relationOf_37 ?_
        refine lv_topi (fun x_6 ex_6 => ?_)
        obtain rfl : x_6 = 3 := ex_6.trans (by first | rfl | decide)
        refine lv_iconst (v := 1) hx hb dX10_relationOf_38 (by decide) ?_
        refine lv_iand hx hb dX10_relationOf_39 ?_
        refine lv_topi (fun x_7 ex_7 => ?_)
        obtain rfl : x_7 = 1 := ex_7.trans (by first | rfl | decide)
        refine lv_if_ne (tgt := 45) hx hb dX10_relationOf_40 (by decide) (fun _ => ?_) (fun c => absurd c (by decide))
        refine lv_aload_n hx hb dX10_relationOf_45 rfl (lv_at hl 0 rfl) ?_
        refine va_get (D := (dC, dI)) (ci := 10) (v := .ref xHan) (C := RX10) (T := TX10) (N := 13) hx hb hts hiX10 hown hK hP 0 rfl rfl 8 (by decide) (hts (.fieldLink RX10 61 "ScissorsTable" "hang" "LScissorsTable$Hang;") (by decide +kernel)) (fun _ h9 => h9) rfl dX10_relationOf_46 ?_
        refine lv_iload_n hx hb dX10_relationOf_49 rfl (lv_at hl 1 rfl) ?_
        refine lv_iconst (v := 1) hx hb dX10_relationOf_50 (by decide) ?_
        refine lv_iload_n hx hb dX10_relationOf_51 rfl (lv_at hl 2 rfl) ?_
        refine lv_ishl hx hb dX10_relationOf_52 ?_
        refine lv_topi (fun x_8 ex_8 => ?_)
        obtain rfl : x_8 = 1 := ex_8.trans (by first | rfl | decide)
        refine lv_iconst (v := 1) hx hb dX10_relationOf_53 (by decide) ?_
        refine lv_isub hx hb dX10_relationOf_54 ?_
        refine lv_topi (fun x_9 ex_9 => ?_)
        obtain rfl : x_9 = 0 := ex_9.trans (by first | rfl | decide)
        refine lv_iand hx hb dX10_relationOf_55 ?_
        refine lv_topi (fun x_10 ex_10 => ?_)
        obtain rfl : x_10 = 0 := ex_10.trans (by first | rfl | decide)
        have hPc := hP.sub (ws' := []) [] rfl
        have hDc := hD.sub (ws' := []) [] (by decide) rfl
        have hFc := va_free (wc := []) hD hS hA [] rfl
        refine va_calli (va_runS (As := [.int 0]) (rest := [.ref xHan]) ⟨hx, hb, hml, hown, hts⟩ (c_J6_bitCount_0f7a4_0 l dC dI cB cI cJ H.size ) (va_cwS 1 hts gX10_relationOf_J6_bitCount_0f7a4 rfl rfl rfl (by decide +kernel) ⟨Nat.le_of_ble_eq_true rfl, Nat.le_of_ble_eq_true rfl⟩) ⟨fun a U g mk q => by obtain ⟨q0, q1, qP, qK, qD⟩ := q; exact ⟨q0, q1, qP, va_K.moved (u := U) (U := U.calling g mk a) (Vm.Alike.refl U.vm) qK, qD⟩, fun U hU hW => ⟨rfl, by rw [hU], by rw [hU]; exact hPc, va_K.moved hW.alike hK, hDc.weaken (fun _ _ _ _ => trivial)⟩⟩ rfl rfl hl.1 rfl (lv_room (Nat.le_of_ble_eq_true rfl)) dX10_relationOf_56 ⟨Nat.le_of_ble_eq_true rfl, Nat.le_of_ble_eq_true rfl⟩) hS (fun q _ h => hFc q h) hFc (fun r_11 u t H1 locs ht hvm hw hB hz1 hk1 hS => ?_)
        have hP1 : va_P (dC, dI) vwCl [] H1 := fun k q h => by simp at h
        have hD1 : va_D (va_A [] H.size) [] := ⟨fun i j p q h => by simp at h, fun k q h => by simp at h⟩
        obtain ⟨hP, hD⟩ := va_join (wr := [(x0, .inr (10, [.ref xTape, .ref xReader, .ref xBag, .ref xBld, .ref xAng, .ref xSum, .ref xPik, .int 0, .ref xHan, .ref xIns, .ref xShr, .ref xSta, .ref xTur])), (xSum, .inr (8, [.ref sM, .ref sP, .ref sA, .int 0])), (hH, .inl (cI, 7, (.inl (upd (upd (fun _ => 0) (0 : Int32).toNatClampNeg 0) (0 : Int32).toNatClampNeg 1)))), (hT, .inl (cJ, 7, (.inr (.inl (vp_updL (vp_updL (fun _ => 0) (0 : Int32).toNatClampNeg 1) (0 : Int32).toNatClampNeg 1))))), (xHan, .inr (3, [.int 0, .int 2, .int 1, .ref hH, .ref hR, .ref hT, .ref hM])), (hM, .inl (cJ, 6, (.inr (.inl (vp_updL (fun _ => 0) (0 : Int32).toNatClampNeg 1)))))]) (w1 := []) hP hD [] [0, 1, 2, 3, 4, 5] rfl rfl (by decide) (by decide) hk1 hFc hP1 hD1
        generalize H1 = H at hP hS ⊢
        have hP : va_P (dC, dI) vwCl [(x0, .inr (10, [.ref xTape, .ref xReader, .ref xBag, .ref xBld, .ref xAng, .ref xSum, .ref xPik, .int 0, .ref xHan, .ref xIns, .ref xShr, .ref xSta, .ref xTur])), (xSum, .inr (8, [.ref sM, .ref sP, .ref sA, .int 0])), (hH, .inl (cI, 7, (.inl (upd (upd (fun _ => 0) (0 : Int32).toNatClampNeg 0) (0 : Int32).toNatClampNeg 1)))), (hT, .inl (cJ, 7, (.inr (.inl (vp_updL (vp_updL (fun _ => 0) (0 : Int32).toNatClampNeg 1) (0 : Int32).toNatClampNeg 1))))), (xHan, .inr (3, [.int 0, .int 2, .int 1, .ref hH, .ref hR, .ref hT, .ref hM])), (hM, .inl (cJ, 6, (.inr (.inl (vp_updL (fun _ => 0) (0 : Int32).toNatClampNeg 1)))))] H := hP
        have hD : va_D A [(x0, .inr (10, [.ref xTape, .ref xReader, .ref xBag, .ref xBld, .ref xAng, .ref xSum, .ref xPik, .int 0, .ref xHan, .ref xIns, .ref xShr, .ref xSta, .ref xTur])), (xSum, .inr (8, [.ref sM, .ref sP, .ref sA, .int 0])), (hH, .inl (cI, 7, (.inl (upd (upd (fun _ => 0) (0 : Int32).toNatClampNeg 0) (0 : Int32).toNatClampNeg 1)))), (hT, .inl (cJ, 7, (.inr (.inl (vp_updL (vp_updL (fun _ => 0) (0 : Int32).toNatClampNeg 1) (0 : Int32).toNatClampNeg 1))))), (xHan, .inr (3, [.int 0, .int 2, .int 1, .ref hH, .ref hR, .ref hT, .ref hM])), (hM, .inl (cJ, 6, (.inr (.inl (vp_updL (fun _ => 0) (0 : Int32).toNatClampNeg 1)))))] := hD
        have hr_11 := hw
        obtain rfl : r_11 = 0 := hr_11
        have hPc := hP.sub (ws' := [(xHan, .inr (3, [.int 0, .int 2, .int 1, .ref hH, .ref hR, .ref hT, .ref hM])), (hM, .inl (cJ, 6, (.inr (.inl (vp_updL (fun _ => 0) (0 : Int32).toNatClampNeg 1)))))]) [4, 5] rfl
        have hDc := hD.sub (ws' := [(xHan, .inr (3, [.int 0, .int 2, .int 1, .ref hH, .ref hR, .ref hT, .ref hM])), (hM, .inl (cJ, 6, (.inr (.inl (vp_updL (fun _ => 0) (0 : Int32).toNatClampNeg 1)))))]) [4, 5] (by decide) rfl
        have hFc := va_free (wc := [(xHan, .inr (3, [.int 0, .int 2, .int 1, .ref hH, .ref hR, .ref hT, .ref hM])), (hM, .inl (cJ, 6, (.inr (.inl (vp_updL (fun _ => 0) (0 : Int32).toNatClampNeg 1)))))]) hD hS hA [4, 5] rfl
        refine va_calli (va_runV (As := [.int 0]) (rest := []) ⟨hx, hb, hml, hown, hts⟩ (c_X3_timesOf_t2_0 l dC dI cB cI cJ H.size xHan hH hR hT hM) (cwV 1 hts gX10_relationOf_X3_timesOf rfl rfl rfl (by decide +kernel) ⟨Nat.le_of_ble_eq_true rfl, Nat.le_of_ble_eq_true rfl⟩) ⟨fun a U g mk q => by obtain ⟨q0, q1, qP, qK, qD⟩ := q; exact ⟨q0, q1, qP, va_K.moved (u := U) (U := U.calling g mk a) (Vm.Alike.refl U.vm) qK, qD⟩, va_recv hK hP (ci := 3) (q0 := 4) rfl rfl, fun U hU hW => ⟨rfl, by rw [hU], by rw [hU]; exact hPc, va_K.moved hW.alike hK, hDc.weaken (fun _ _ _ _ => trivial)⟩⟩ rfl rfl hl.1 rfl (lv_room (Nat.le_of_ble_eq_true rfl)) dX10_relationOf_59 ⟨Nat.le_of_ble_eq_true rfl, Nat.le_of_ble_eq_true rfl⟩) hS (fun q _ h => hFc q h) hFc (fun r_12 u t H1 locs ht hvm hw hB hz1 hk1 hS => ?_)
        have hP1 : va_P (dC, dI) vwCl [] H1 := fun k q h => by simp at h
        have hD1 : va_D (va_A [(xHan, .inr (3, [.int 0, .int 2, .int 1, .ref hH, .ref hR, .ref hT, .ref hM])), (hM, .inl (cJ, 6, (.inr (.inl (vp_updL (fun _ => 0) (0 : Int32).toNatClampNeg 1)))))] H.size) [] := ⟨fun i j p q h => by simp at h, fun k q h => by simp at h⟩
        obtain ⟨hP, hD⟩ := va_join (wr := [(x0, .inr (10, [.ref xTape, .ref xReader, .ref xBag, .ref xBld, .ref xAng, .ref xSum, .ref xPik, .int 0, .ref xHan, .ref xIns, .ref xShr, .ref xSta, .ref xTur])), (xSum, .inr (8, [.ref sM, .ref sP, .ref sA, .int 0])), (hH, .inl (cI, 7, (.inl (upd (upd (fun _ => 0) (0 : Int32).toNatClampNeg 0) (0 : Int32).toNatClampNeg 1)))), (hT, .inl (cJ, 7, (.inr (.inl (vp_updL (vp_updL (fun _ => 0) (0 : Int32).toNatClampNeg 1) (0 : Int32).toNatClampNeg 1)))))]) (w1 := []) hP hD [4, 5] [0, 1, 2, 3] rfl rfl (by decide) (by decide) hk1 hFc hP1 hD1
        generalize H1 = H at hP hS ⊢
        have hP : va_P (dC, dI) vwCl [(x0, .inr (10, [.ref xTape, .ref xReader, .ref xBag, .ref xBld, .ref xAng, .ref xSum, .ref xPik, .int 0, .ref xHan, .ref xIns, .ref xShr, .ref xSta, .ref xTur])), (xSum, .inr (8, [.ref sM, .ref sP, .ref sA, .int 0])), (hH, .inl (cI, 7, (.inl (upd (upd (fun _ => 0) (0 : Int32).toNatClampNeg 0) (0 : Int32).toNatClampNeg 1)))), (hT, .inl (cJ, 7, (.inr (.inl (vp_updL (vp_updL (fun _ => 0) (0 : Int32).toNatClampNeg 1) (0 : Int32).toNatClampNeg 1)))))] H := hP
        have hD : va_D A [(x0, .inr (10, [.ref xTape, .ref xReader, .ref xBag, .ref xBld, .ref xAng, .ref xSum, .ref xPik, .int 0, .ref xHan, .ref xIns, .ref xShr, .ref xSta, .ref xTur])), (xSum, .inr (8, [.ref sM, .ref sP, .ref sA, .int 0])), (hH, .inl (cI, 7, (.inl (upd (upd (fun _ => 0) (0 : Int32).toNatClampNeg 0) (0 : Int32).toNatClampNeg 1)))), (hT, .inl (cJ, 7, (.inr (.inl (vp_updL (vp_updL (fun _ => 0) (0 : Int32).toNatClampNeg 1) (0 : Int32).toNatClampNeg 1)))))] := hD
        have hr_12 := hw
        obtain rfl : r_12 = 1 := hr_12
        refine W.widen (k := 0) (n := 0) (Nat.le_of_ble_eq_true rfl) (Nat.le_of_ble_eq_true rfl) ?_
        exact W.iret (v := 1) hx hb hr (fun t ht hW => ⟨⟨1, (), rfl, (by decide), trivial⟩, hS.F ht⟩) hS.2.2 dX10_relationOf_62
      · refine lv_iload_n hx hb dX10_relationOf_35 rfl (lv_at hl 1 rfl) ?_
        refine lv_iload_n hx hb dX10_relationOf_36 rfl (lv_at hl 2 rfl) ?_
        refine lv_ishr hx hb dX10_relationOf_37 ?_
        refine lv_topi (fun x_13 ex_13 => ?_)
        obtain rfl : x_13 = 1 := ex_13.trans (by first | rfl | decide)
        refine lv_iconst (v := 1) hx hb dX10_relationOf_38 (by decide) ?_
        refine lv_iand hx hb dX10_relationOf_39 ?_
        refine lv_topi (fun x_14 ex_14 => ?_)
        obtain rfl : x_14 = 1 := ex_14.trans (by first | rfl | decide)
        refine lv_if_ne (tgt := 45) hx hb dX10_relationOf_40 (by decide) (fun _ => ?_) (fun c => absurd c (by decide))
        refine lv_aload_n hx hb dX10_relationOf_45 rfl (lv_at hl 0 rfl) ?_
        refine va_get (D := (dC, dI)) (ci := 10) (v := .ref xHan) (C := RX10) (T := TX10) (N := 13) hx hb hts hiX10 hown hK hP 0 rfl rfl 8 (by decide) (hts (.fieldLink RX10 61 "ScissorsTable" "hang" "LScissorsTable$Hang;") (by decide +kernel)) (fun _ h9 => h9) rfl dX10_relationOf_46 ?_
        refine lv_iload_n hx hb dX10_relationOf_49 rfl (lv_at hl 1 rfl) ?_
        refine lv_iconst (v := 1) hx hb dX10_relationOf_50 (by decide) ?_
        refine lv_iload_n hx hb dX10_relationOf_51 rfl (lv_at hl 2 rfl) ?_
        refine lv_ishl hx hb dX10_relationOf_52 ?_
        refine lv_topi (fun x_15 ex_15 => ?_)
        obtain rfl : x_15 = 2 := ex_15.trans (by first | rfl | decide)
        refine lv_iconst (v := 1) hx hb dX10_relationOf_53 (by decide) ?_
        refine lv_isub hx hb dX10_relationOf_54 ?_
        refine lv_topi (fun x_16 ex_16 => ?_)
        obtain rfl : x_16 = 1 := ex_16.trans (by first | rfl | decide)
        refine lv_iand hx hb dX10_relationOf_55 ?_
        refine lv_topi (fun x_17 ex_17 => ?_)
        obtain rfl : x_17 = 1 := ex_17.trans (by first | rfl | decide)
        have hPc := hP.sub (ws' := []) [] rfl
        have hDc := hD.sub (ws' := []) [] (by decide) rfl
        have hFc := va_free (wc := []) hD hS hA [] rfl
        refine va_calli (va_runS (As := [.int 1]) (rest := [.ref xHan]) ⟨hx, hb, hml, hown, hts⟩ (c_J6_bitCount_0f7a4_1 l dC dI cB cI cJ H.size ) (va_cwS 1 hts gX10_relationOf_J6_bitCount_0f7a4 rfl rfl rfl (by decide +kernel) ⟨Nat.le_of_ble_eq_true rfl, Nat.le_of_ble_eq_true rfl⟩) ⟨fun a U g mk q => by obtain ⟨q0, q1, qP, qK, qD⟩ := q; exact ⟨q0, q1, qP, va_K.moved (u := U) (U := U.calling g mk a) (Vm.Alike.refl U.vm) qK, qD⟩, fun U hU hW => ⟨rfl, by rw [hU], by rw [hU]; exact hPc, va_K.moved hW.alike hK, hDc.weaken (fun _ _ _ _ => trivial)⟩⟩ rfl rfl hl.1 rfl (lv_room (Nat.le_of_ble_eq_true rfl)) dX10_relationOf_56 ⟨Nat.le_of_ble_eq_true rfl, Nat.le_of_ble_eq_true rfl⟩) hS (fun q _ h => hFc q h) hFc (fun r_18 u t H1 locs ht hvm hw hB hz1 hk1 hS => ?_)
        have hP1 : va_P (dC, dI) vwCl [] H1 := fun k q h => by simp at h
        have hD1 : va_D (va_A [] H.size) [] := ⟨fun i j p q h => by simp at h, fun k q h => by simp at h⟩
        obtain ⟨hP, hD⟩ := va_join (wr := [(x0, .inr (10, [.ref xTape, .ref xReader, .ref xBag, .ref xBld, .ref xAng, .ref xSum, .ref xPik, .int 0, .ref xHan, .ref xIns, .ref xShr, .ref xSta, .ref xTur])), (xSum, .inr (8, [.ref sM, .ref sP, .ref sA, .int 0])), (hH, .inl (cI, 7, (.inl (upd (upd (fun _ => 0) (0 : Int32).toNatClampNeg 0) (0 : Int32).toNatClampNeg 1)))), (hT, .inl (cJ, 7, (.inr (.inl (vp_updL (vp_updL (fun _ => 0) (0 : Int32).toNatClampNeg 1) (0 : Int32).toNatClampNeg 1))))), (xHan, .inr (3, [.int 0, .int 2, .int 1, .ref hH, .ref hR, .ref hT, .ref hM])), (hM, .inl (cJ, 6, (.inr (.inl (vp_updL (fun _ => 0) (0 : Int32).toNatClampNeg 1)))))]) (w1 := []) hP hD [] [0, 1, 2, 3, 4, 5] rfl rfl (by decide) (by decide) hk1 hFc hP1 hD1
        generalize H1 = H at hP hS ⊢
        have hP : va_P (dC, dI) vwCl [(x0, .inr (10, [.ref xTape, .ref xReader, .ref xBag, .ref xBld, .ref xAng, .ref xSum, .ref xPik, .int 0, .ref xHan, .ref xIns, .ref xShr, .ref xSta, .ref xTur])), (xSum, .inr (8, [.ref sM, .ref sP, .ref sA, .int 0])), (hH, .inl (cI, 7, (.inl (upd (upd (fun _ => 0) (0 : Int32).toNatClampNeg 0) (0 : Int32).toNatClampNeg 1)))), (hT, .inl (cJ, 7, (.inr (.inl (vp_updL (vp_updL (fun _ => 0) (0 : Int32).toNatClampNeg 1) (0 : Int32).toNatClampNeg 1))))), (xHan, .inr (3, [.int 0, .int 2, .int 1, .ref hH, .ref hR, .ref hT, .ref hM])), (hM, .inl (cJ, 6, (.inr (.inl (vp_updL (fun _ => 0) (0 : Int32).toNatClampNeg 1)))))] H := hP
        have hD : va_D A [(x0, .inr (10, [.ref xTape, .ref xReader, .ref xBag, .ref xBld, .ref xAng, .ref xSum, .ref xPik, .int 0, .ref xHan, .ref xIns, .ref xShr, .ref xSta, .ref xTur])), (xSum, .inr (8, [.ref sM, .ref sP, .ref sA, .int 0])), (hH, .inl (cI, 7, (.inl (upd (upd (fun _ => 0) (0 : Int32).toNatClampNeg 0) (0 : Int32).toNatClampNeg 1)))), (hT, .inl (cJ, 7, (.inr (.inl (vp_updL (vp_updL (fun _ => 0) (0 : Int32).toNatClampNeg 1) (0 : Int32).toNatClampNeg 1))))), (xHan, .inr (3, [.int 0, .int 2, .int 1, .ref hH, .ref hR, .ref hT, .ref hM])), (hM, .inl (cJ, 6, (.inr (.inl (vp_updL (fun _ => 0) (0 : Int32).toNatClampNeg 1)))))] := hD
        have hr_18 := hw
        obtain rfl : r_18 = 1 := hr_18
        have hPc := hP.sub (ws' := [(xHan, .inr (3, [.int 0, .int 2, .int 1, .ref hH, .ref hR, .ref hT, .ref hM])), (hM, .inl (cJ, 6, (.inr (.inl (vp_updL (fun _ => 0) (0 : Int32).toNatClampNeg 1)))))]) [4, 5] rfl
        have hDc := hD.sub (ws' := [(xHan, .inr (3, [.int 0, .int 2, .int 1, .ref hH, .ref hR, .ref hT, .ref hM])), (hM, .inl (cJ, 6, (.inr (.inl (vp_updL (fun _ => 0) (0 : Int32).toNatClampNeg 1)))))]) [4, 5] (by decide) rfl
        have hFc := va_free (wc := [(xHan, .inr (3, [.int 0, .int 2, .int 1, .ref hH, .ref hR, .ref hT, .ref hM])), (hM, .inl (cJ, 6, (.inr (.inl (vp_updL (fun _ => 0) (0 : Int32).toNatClampNeg 1)))))]) hD hS hA [4, 5] rfl
        refine va_calli (va_runV (As := [.int 1]) (rest := []) ⟨hx, hb, hml, hown, hts⟩ (c_X3_timesOf_t2_1 l dC dI cB cI cJ H.size xHan hH hR hT hM) (cwV 1 hts gX10_relationOf_X3_timesOf rfl rfl rfl (by decide +kernel) ⟨Nat.le_of_ble_eq_true rfl, Nat.le_of_ble_eq_true rfl⟩) ⟨fun a U g mk q => by obtain ⟨q0, q1, qP, qK, qD⟩ := q; exact ⟨q0, q1, qP, va_K.moved (u := U) (U := U.calling g mk a) (Vm.Alike.refl U.vm) qK, qD⟩, va_recv hK hP (ci := 3) (q0 := 4) rfl rfl, fun U hU hW => ⟨rfl, by rw [hU], by rw [hU]; exact hPc, va_K.moved hW.alike hK, hDc.weaken (fun _ _ _ _ => trivial)⟩⟩ rfl rfl hl.1 rfl (lv_room (Nat.le_of_ble_eq_true rfl)) dX10_relationOf_59 ⟨Nat.le_of_ble_eq_true rfl, Nat.le_of_ble_eq_true rfl⟩) hS (fun q _ h => hFc q h) hFc (fun r_19 u t H1 locs ht hvm hw hB hz1 hk1 hS => ?_)
        have hP1 : va_P (dC, dI) vwCl [] H1 := fun k q h => by simp at h
        have hD1 : va_D (va_A [(xHan, .inr (3, [.int 0, .int 2, .int 1, .ref hH, .ref hR, .ref hT, .ref hM])), (hM, .inl (cJ, 6, (.inr (.inl (vp_updL (fun _ => 0) (0 : Int32).toNatClampNeg 1)))))] H.size) [] := ⟨fun i j p q h => by simp at h, fun k q h => by simp at h⟩
        obtain ⟨hP, hD⟩ := va_join (wr := [(x0, .inr (10, [.ref xTape, .ref xReader, .ref xBag, .ref xBld, .ref xAng, .ref xSum, .ref xPik, .int 0, .ref xHan, .ref xIns, .ref xShr, .ref xSta, .ref xTur])), (xSum, .inr (8, [.ref sM, .ref sP, .ref sA, .int 0])), (hH, .inl (cI, 7, (.inl (upd (upd (fun _ => 0) (0 : Int32).toNatClampNeg 0) (0 : Int32).toNatClampNeg 1)))), (hT, .inl (cJ, 7, (.inr (.inl (vp_updL (vp_updL (fun _ => 0) (0 : Int32).toNatClampNeg 1) (0 : Int32).toNatClampNeg 1)))))]) (w1 := []) hP hD [4, 5] [0, 1, 2, 3] rfl rfl (by decide) (by decide) hk1 hFc hP1 hD1
        generalize H1 = H at hP hS ⊢
        have hP : va_P (dC, dI) vwCl [(x0, .inr (10, [.ref xTape, .ref xReader, .ref xBag, .ref xBld, .ref xAng, .ref xSum, .ref xPik, .int 0, .ref xHan, .ref xIns, .ref xShr, .ref xSta, .ref xTur])), (xSum, .inr (8, [.ref sM, .ref sP, .ref sA, .int 0])), (hH, .inl (cI, 7, (.inl (upd (upd (fun _ => 0) (0 : Int32).toNatClampNeg 0) (0 : Int32).toNatClampNeg 1)))), (hT, .inl (cJ, 7, (.inr (.inl (vp_updL (vp_updL (fun _ => 0) (0 : Int32).toNatClampNeg 1) (0 : Int32).toNatClampNeg 1)))))] H := hP
        have hD : va_D A [(x0, .inr (10, [.ref xTape, .ref xReader, .ref xBag, .ref xBld, .ref xAng, .ref xSum, .ref xPik, .int 0, .ref xHan, .ref xIns, .ref xShr, .ref xSta, .ref xTur])), (xSum, .inr (8, [.ref sM, .ref sP, .ref sA, .int 0])), (hH, .inl (cI, 7, (.inl (upd (upd (fun _ => 0) (0 : Int32).toNatClampNeg 0) (0 : Int32).toNatClampNeg 1)))), (hT, .inl (cJ, 7, (.inr (.inl (vp_updL (vp_updL (fun _ => 0) (0 : Int32).toNatClampNeg 1) (0 : Int32).toNatClampNeg 1)))))] := hD
        have hr_19 := hw
        obtain rfl : r_19 = 0 := hr_19
        refine W.widen (k := 0) (n := 0) (Nat.le_of_ble_eq_true rfl) (Nat.le_of_ble_eq_true rfl) ?_
        exact W.iret (v := 0) hx hb hr (fun t ht hW => ⟨⟨0, (), rfl, (by decide), trivial⟩, hS.F ht⟩) hS.2.2 dX10_relationOf_62
      · refine lv_iload_n hx hb dX10_relationOf_35 rfl (lv_at hl 1 rfl) ?_
        refine lv_iload_n hx hb dX10_relationOf_36 rfl (lv_at hl 2 rfl) ?_
        refine lv_ishr hx hb dX10_relationOf_37 ?_
        refine lv_topi (fun x_20 ex_20 => ?_)
        obtain rfl : x_20 = 0 := ex_20.trans (by first | rfl | decide)
        refine lv_iconst (v := 1) hx hb dX10_relationOf_38 (by decide) ?_
        refine lv_iand hx hb dX10_relationOf_39 ?_
        refine lv_topi (fun x_21 ex_21 => ?_)
        obtain rfl : x_21 = 0 := ex_21.trans (by first | rfl | decide)
        refine lv_if_ne (tgt := 45) hx hb dX10_relationOf_40 (by decide) (fun c => absurd (by decide) c) (fun _ => ?_)
        refine lv_iconst (v := 0) hx hb dX10_relationOf_43 (by decide) ?_
        refine W.widen (k := 0) (n := 0) (Nat.le_of_ble_eq_true rfl) (Nat.le_of_ble_eq_true rfl) ?_
        exact W.iret (v := 0) hx hb hr (fun t ht hW => ⟨⟨0, (), rfl, (by decide), trivial⟩, hS.F ht⟩) hS.2.2 dX10_relationOf_44
      · refine lv_iload_n hx hb dX10_relationOf_35 rfl (lv_at hl 1 rfl) ?_
        refine lv_iload_n hx hb dX10_relationOf_36 rfl (lv_at hl 2 rfl) ?_
        refine lv_ishr hx hb dX10_relationOf_37 ?_
        refine lv_topi (fun x_22 ex_22 => ?_)
        obtain rfl : x_22 = 0 := ex_22.trans (by first | rfl | decide)
        refine lv_iconst (v := 1) hx hb dX10_relationOf_38 (by decide) ?_
        refine lv_iand hx hb dX10_relationOf_39 ?_
        refine lv_topi (fun x_23 ex_23 => ?_)
        obtain rfl : x_23 = 0 := ex_23.trans (by first | rfl | decide)
        refine lv_if_ne (tgt := 45) hx hb dX10_relationOf_40 (by decide) (fun c => absurd (by decide) c) (fun _ => ?_)
        refine lv_iconst (v := 0) hx hb dX10_relationOf_43 (by decide) ?_
        refine W.widen (k := 0) (n := 0) (Nat.le_of_ble_eq_true rfl) (Nat.le_of_ble_eq_true rfl) ?_
        exact W.iret (v := 0) hx hb hr (fun t ht hW => ⟨⟨0, (), rfl, (by decide), trivial⟩, hS.F ht⟩) hS.2.2 dX10_relationOf_44
set_option maxHeartbeats 4000000 in
set_option maxRecDepth 100000 in
theorem c_X10_relationOf_4 (l : Launch) (dC : Nat → ClassId) (dI : Nat → Nat → Nat) (cB cI cJ : ClassId) (sz : Nat) (x0 xTape xReader xBag xBld xAng xSum xPik xHan xIns xShr xSta xTur sM sP sA hH hR hT hM : Nat) (p1 : Int32) : Met l yX10_relationOf wsX10_relationOf ({ frames := 12, cells := 0, slots := 0, locals := 400 }) (va_Pc [.ref x0, .int 4, .int p1] (fun U => U.heap.size = sz ∧ va_P (dC, dI) vwCl [(x0, .inr (10, [.ref xTape, .ref xReader, .ref xBag, .ref xBld, .ref xAng, .ref xSum, .ref xPik, .int 0, .ref xHan, .ref xIns, .ref xShr, .ref xSta, .ref xTur])), (xSum, .inr (8, [.ref sM, .ref sP, .ref sA, .int 0])), (xHan, .inr (3, [.int 0, .int 0, .int 0, .ref hH, .ref hR, .ref hT, .ref hM])), (hH, .inl (cI, 7, (.inl (fun _ => 0)))), (hT, .inl (cJ, 7, (.inr (.inl (fun _ => 0))))), (hM, .inl (cJ, 6, (.inr (.inl (fun _ => 0)))))] U.heap ∧ va_K (dC, dI) vwCl [(cB, .byte), (cI, .int), (cJ, .long)] U ∧ va_D (fun _ => True) [(x0, .inr (10, [.ref xTape, .ref xReader, .ref xBag, .ref xBld, .ref xAng, .ref xSum, .ref xPik, .int 0, .ref xHan, .ref xIns, .ref xShr, .ref xSta, .ref xTur])), (xSum, .inr (8, [.ref sM, .ref sP, .ref sA, .int 0])), (xHan, .inr (3, [.int 0, .int 0, .int 0, .ref hH, .ref hR, .ref hT, .ref hM])), (hH, .inl (cI, 7, (.inl (fun _ => 0)))), (hT, .inl (cJ, 7, (.inr (.inl (fun _ => 0))))), (hM, .inl (cJ, 6, (.inr (.inl (fun _ => 0)))))] ∧ va_Nw (.methodLinkNest RX3 62 yX10_gcd "ScissorsTable") U)) (va_Qi (fun (r : Int32) (_ : Unit) => r = sp_rel 4 p1) (fun _ _ => True) (va_A [(x0, .inr (10, [.ref xTape, .ref xReader, .ref xBag, .ref xBld, .ref xAng, .ref xSum, .ref xPik, .int 0, .ref xHan, .ref xIns, .ref xShr, .ref xSta, .ref xTur])), (xSum, .inr (8, [.ref sM, .ref sP, .ref sA, .int 0])), (xHan, .inr (3, [.int 0, .int 0, .int 0, .ref hH, .ref hR, .ref hT, .ref hM])), (hH, .inl (cI, 7, (.inl (fun _ => 0)))), (hT, .inl (cJ, 7, (.inr (.inl (fun _ => 0))))), (hM, .inl (cJ, 6, (.inr (.inl (fun _ => 0)))))] sz)) 0 0 (va_A [(x0, .inr (10, [.ref xTape, .ref xReader, .ref xBag, .ref xBld, .ref xAng, .ref xSum, .ref xPik, .int 0, .ref xHan, .ref xIns, .ref xShr, .ref xSta, .ref xTur])), (xSum, .inr (8, [.ref sM, .ref sP, .ref sA, .int 0])), (xHan, .inr (3, [.int 0, .int 0, .int 0, .ref hH, .ref hR, .ref hT, .ref hM])), (hH, .inl (cI, 7, (.inl (fun _ => 0)))), (hT, .inl (cJ, 7, (.inr (.inl (fun _ => 0))))), (hM, .inl (cJ, 6, (.inr (.inl (fun _ => 0)))))] sz) := by
  refine Met.ofW (cc := cX10_relationOf) (maxL := 3) (ret := (some .int)) (by decide) rfl ?_
  intro p e s m args below meth c s₁ B hml hv
  obtain ⟨rfl, hsz, hP, hK, hD0, hN0⟩ := hv
  have hx := B.exec
  have hb := B.bytes
  have hr := B.returns
  have hts := atoms_spec (ws := wsX10_relationOf) B.pre
  have hown : s.vm.findClass RX10 = some m.cls := findClass_of_methodNamed B.named
  have hlocks := B.notSynchronized
  have hiX10 : ∀ w ∈ u_ws RX10 TX10 13, w ∈ wsX10_relationOf := by decide +kernel
  subst hsz
  have hD := hD0.self (sz := s.heap.size)
  generalize hAe : va_A [(x0, .inr (10, [.ref xTape, .ref xReader, .ref xBag, .ref xBld, .ref xAng, .ref xSum, .ref xPik, .int 0, .ref xHan, .ref xIns, .ref xShr, .ref xSta, .ref xTur])), (xSum, .inr (8, [.ref sM, .ref sP, .ref sA, .int 0])), (xHan, .inr (3, [.int 0, .int 0, .int 0, .ref hH, .ref hR, .ref hT, .ref hM])), (hH, .inl (cI, 7, (.inl (fun _ => 0)))), (hT, .inl (cJ, 7, (.inr (.inl (fun _ => 0))))), (hM, .inl (cJ, 6, (.inr (.inl (fun _ => 0)))))] s.heap.size = A at hD ⊢
  have hA : ∀ q : Nat, s.heap.size ≤ q → A q := fun q h => by rw [← hAe]; exact Or.inr h
  have hS : va_S A s.heap s.heap [] := va_S.rf
  have hP : va_P (dC, dI) vwCl [(x0, .inr (10, [.ref xTape, .ref xReader, .ref xBag, .ref xBld, .ref xAng, .ref xSum, .ref xPik, .int 0, .ref xHan, .ref xIns, .ref xShr, .ref xSta, .ref xTur])), (xSum, .inr (8, [.ref sM, .ref sP, .ref sA, .int 0])), (xHan, .inr (3, [.int 0, .int 0, .int 0, .ref hH, .ref hR, .ref hT, .ref hM])), (hH, .inl (cI, 7, (.inl (fun _ => 0)))), (hT, .inl (cJ, 7, (.inr (.inl (fun _ => 0))))), (hM, .inl (cJ, 6, (.inr (.inl (fun _ => 0)))))] s.heap := hP
  have hl := lv_entry ([.ref x0, .int 4, .int p1]) (n := 3) (Nat.le_of_ble_eq_true rfl)
  rw [lg_entry_eq]
  generalize (lg_sl ([.ref x0, .int 4, .int p1]) ++ List.replicate (3 - (lg_sl ([.ref x0, .int 4, .int p1])).length) Slot.unset).toArray = ls at hl ⊢
  have hl : lv_has ls 3 [(0, .ref x0), (1, .int 4), (2, .int p1)] := hl
  refine lv_iload_n hx hb dX10_relationOf_0 rfl (lv_at hl 1 rfl) ?_
  have hPc := hP.sub (ws' := []) [] rfl
  have hDc := hD.sub (ws' := []) [] (by decide) rfl
  have hFc := va_free (wc := []) hD hS hA [] rfl
  refine va_calli (va_runS (As := [.int 4]) (rest := []) ⟨hx, hb, hml, hown, hts⟩ (c_X10_isSetOfSolids l dC dI cB cI cJ s.heap.size 4) (va_cwS 1 hts gX10_relationOf_X10_isSetOfSolids rfl rfl rfl (by decide +kernel) ⟨Nat.le_of_ble_eq_true rfl, Nat.le_of_ble_eq_true rfl⟩) ⟨fun a U g mk q => by obtain ⟨q0, q1, qP, qK, qD⟩ := q; exact ⟨q0, q1, qP, va_K.moved (u := U) (U := U.calling g mk a) (Vm.Alike.refl U.vm) qK, qD⟩, fun U hU hW => ⟨rfl, by rw [hU], by rw [hU]; exact hPc, va_K.moved hW.alike hK, hDc.weaken (fun _ _ _ _ => trivial)⟩⟩ rfl rfl hl.1 rfl (lv_room (Nat.le_of_ble_eq_true rfl)) dX10_relationOf_1 ⟨Nat.le_of_ble_eq_true rfl, Nat.le_of_ble_eq_true rfl⟩) hS (fun q _ h => hFc q h) hFc (fun r_1 u t H1 locs ht hvm hw hB hz1 hk1 hS => ?_)
  have hP1 : va_P (dC, dI) vwCl [] H1 := fun k q h => by simp at h
  have hD1 : va_D (va_A [] s.heap.size) [] := ⟨fun i j p q h => by simp at h, fun k q h => by simp at h⟩
  obtain ⟨hP, hD⟩ := va_join (wr := [(x0, .inr (10, [.ref xTape, .ref xReader, .ref xBag, .ref xBld, .ref xAng, .ref xSum, .ref xPik, .int 0, .ref xHan, .ref xIns, .ref xShr, .ref xSta, .ref xTur])), (xSum, .inr (8, [.ref sM, .ref sP, .ref sA, .int 0])), (xHan, .inr (3, [.int 0, .int 0, .int 0, .ref hH, .ref hR, .ref hT, .ref hM])), (hH, .inl (cI, 7, (.inl (fun _ => 0)))), (hT, .inl (cJ, 7, (.inr (.inl (fun _ => 0))))), (hM, .inl (cJ, 6, (.inr (.inl (fun _ => 0)))))]) (w1 := []) hP hD [] [0, 1, 2, 3, 4, 5] rfl rfl (by decide) (by decide) hk1 hFc hP1 hD1
  generalize H1 = H at hP hS ⊢
  have hP : va_P (dC, dI) vwCl [(x0, .inr (10, [.ref xTape, .ref xReader, .ref xBag, .ref xBld, .ref xAng, .ref xSum, .ref xPik, .int 0, .ref xHan, .ref xIns, .ref xShr, .ref xSta, .ref xTur])), (xSum, .inr (8, [.ref sM, .ref sP, .ref sA, .int 0])), (xHan, .inr (3, [.int 0, .int 0, .int 0, .ref hH, .ref hR, .ref hT, .ref hM])), (hH, .inl (cI, 7, (.inl (fun _ => 0)))), (hT, .inl (cJ, 7, (.inr (.inl (fun _ => 0))))), (hM, .inl (cJ, 6, (.inr (.inl (fun _ => 0)))))] H := hP
  have hD : va_D A [(x0, .inr (10, [.ref xTape, .ref xReader, .ref xBag, .ref xBld, .ref xAng, .ref xSum, .ref xPik, .int 0, .ref xHan, .ref xIns, .ref xShr, .ref xSta, .ref xTur])), (xSum, .inr (8, [.ref sM, .ref sP, .ref sA, .int 0])), (xHan, .inr (3, [.int 0, .int 0, .int 0, .ref hH, .ref hR, .ref hT, .ref hM])), (hH, .inl (cI, 7, (.inl (fun _ => 0)))), (hT, .inl (cJ, 7, (.inr (.inl (fun _ => 0))))), (hM, .inl (cJ, 6, (.inr (.inl (fun _ => 0)))))] := hD
  rcases hw with ⟨rfl, k_2⟩ | ⟨rfl, k_2⟩
  · refine lv_if_eq (tgt := 14) hx hb dX10_relationOf_4 (by decide) (fun _ => ?_) (fun c => absurd (by decide) c)
    refine lv_ldc (v := (-1000000)) hx hb hown (hts (.constant RX10 140 (-1000000)) (by decide +kernel)) dX10_relationOf_14 ?_
    refine W.widen (k := 0) (n := 0) (Nat.le_of_ble_eq_true rfl) (Nat.le_of_ble_eq_true rfl) ?_
    exact W.iret (v := (-1000000)) hx hb hr (fun t ht hW => ⟨⟨(-1000000), (), rfl, (absurd (by decide) k_2), trivial⟩, hS.F ht⟩) hS.2.2 dX10_relationOf_16
  · refine lv_if_eq (tgt := 14) hx hb dX10_relationOf_4 (by decide) (fun c => absurd c (by decide)) (fun _ => ?_)
    refine lv_iload_n hx hb dX10_relationOf_7 rfl (lv_at hl 2 rfl) ?_
    have hPc := hP.sub (ws' := []) [] rfl
    have hDc := hD.sub (ws' := []) [] (by decide) rfl
    have hFc := va_free (wc := []) hD hS hA [] rfl
    refine va_calli (va_runS (As := [.int p1]) (rest := []) ⟨hx, hb, hml, hown, hts⟩ (c_X10_isSolid l dC dI cB cI cJ H.size p1) (va_cwS 1 hts gX10_relationOf_X10_isSolid rfl rfl rfl (by decide +kernel) ⟨Nat.le_of_ble_eq_true rfl, Nat.le_of_ble_eq_true rfl⟩) ⟨fun a U g mk q => by obtain ⟨q0, q1, qP, qK, qD⟩ := q; exact ⟨q0, q1, qP, va_K.moved (u := U) (U := U.calling g mk a) (Vm.Alike.refl U.vm) qK, qD⟩, fun U hU hW => ⟨rfl, by rw [hU], by rw [hU]; exact hPc, va_K.moved hW.alike hK, hDc.weaken (fun _ _ _ _ => trivial)⟩⟩ rfl rfl hl.1 rfl (lv_room (Nat.le_of_ble_eq_true rfl)) dX10_relationOf_8 ⟨Nat.le_of_ble_eq_true rfl, Nat.le_of_ble_eq_true rfl⟩) hS (fun q _ h => hFc q h) hFc (fun r_3 u t H1 locs ht hvm hw hB hz1 hk1 hS => ?_)
    have hP1 : va_P (dC, dI) vwCl [] H1 := fun k q h => by simp at h
    have hD1 : va_D (va_A [] H.size) [] := ⟨fun i j p q h => by simp at h, fun k q h => by simp at h⟩
    obtain ⟨hP, hD⟩ := va_join (wr := [(x0, .inr (10, [.ref xTape, .ref xReader, .ref xBag, .ref xBld, .ref xAng, .ref xSum, .ref xPik, .int 0, .ref xHan, .ref xIns, .ref xShr, .ref xSta, .ref xTur])), (xSum, .inr (8, [.ref sM, .ref sP, .ref sA, .int 0])), (xHan, .inr (3, [.int 0, .int 0, .int 0, .ref hH, .ref hR, .ref hT, .ref hM])), (hH, .inl (cI, 7, (.inl (fun _ => 0)))), (hT, .inl (cJ, 7, (.inr (.inl (fun _ => 0))))), (hM, .inl (cJ, 6, (.inr (.inl (fun _ => 0)))))]) (w1 := []) hP hD [] [0, 1, 2, 3, 4, 5] rfl rfl (by decide) (by decide) hk1 hFc hP1 hD1
    generalize H1 = H at hP hS ⊢
    have hP : va_P (dC, dI) vwCl [(x0, .inr (10, [.ref xTape, .ref xReader, .ref xBag, .ref xBld, .ref xAng, .ref xSum, .ref xPik, .int 0, .ref xHan, .ref xIns, .ref xShr, .ref xSta, .ref xTur])), (xSum, .inr (8, [.ref sM, .ref sP, .ref sA, .int 0])), (xHan, .inr (3, [.int 0, .int 0, .int 0, .ref hH, .ref hR, .ref hT, .ref hM])), (hH, .inl (cI, 7, (.inl (fun _ => 0)))), (hT, .inl (cJ, 7, (.inr (.inl (fun _ => 0))))), (hM, .inl (cJ, 6, (.inr (.inl (fun _ => 0)))))] H := hP
    have hD : va_D A [(x0, .inr (10, [.ref xTape, .ref xReader, .ref xBag, .ref xBld, .ref xAng, .ref xSum, .ref xPik, .int 0, .ref xHan, .ref xIns, .ref xShr, .ref xSta, .ref xTur])), (xSum, .inr (8, [.ref sM, .ref sP, .ref sA, .int 0])), (xHan, .inr (3, [.int 0, .int 0, .int 0, .ref hH, .ref hR, .ref hT, .ref hM])), (hH, .inl (cI, 7, (.inl (fun _ => 0)))), (hT, .inl (cJ, 7, (.inr (.inl (fun _ => 0))))), (hM, .inl (cJ, 6, (.inr (.inl (fun _ => 0)))))] := hD
    rcases hw with ⟨rfl, k_4⟩ | ⟨rfl, k_4⟩
    · refine lv_if_ne (tgt := 17) hx hb dX10_relationOf_11 (by decide) (fun c => absurd (by decide) c) (fun _ => ?_)
      refine lv_ldc (v := (-1000000)) hx hb hown (hts (.constant RX10 140 (-1000000)) (by decide +kernel)) dX10_relationOf_14 ?_
      refine W.widen (k := 0) (n := 0) (Nat.le_of_ble_eq_true rfl) (Nat.le_of_ble_eq_true rfl) ?_
      exact W.iret (v := (-1000000)) hx hb hr (fun t ht hW => ⟨⟨(-1000000), (), rfl, (show (-1000000 : Int32) = sp_rel 4 p1 from (by unfold sp_rel; rw [if_neg (fun h9 => k_4 h9.2)])), trivial⟩, hS.F ht⟩) hS.2.2 dX10_relationOf_16
    · refine lv_if_ne (tgt := 17) hx hb dX10_relationOf_11 (by decide) (fun _ => ?_) (fun c => absurd c (by decide))
      refine lv_aload_n hx hb dX10_relationOf_17 rfl (lv_at hl 0 rfl) ?_
      refine lv_iload_n hx hb dX10_relationOf_18 rfl (lv_at hl 1 rfl) ?_
      have hPc := hP.sub (ws' := [(x0, .inr (10, [.ref xTape, .ref xReader, .ref xBag, .ref xBld, .ref xAng, .ref xSum, .ref xPik, .int 0, .ref xHan, .ref xIns, .ref xShr, .ref xSta, .ref xTur])), (xSum, .inr (8, [.ref sM, .ref sP, .ref sA, .int 0])), (xHan, .inr (3, [.int 0, .int 0, .int 0, .ref hH, .ref hR, .ref hT, .ref hM])), (hH, .inl (cI, 7, (.inl (fun _ => 0)))), (hT, .inl (cJ, 7, (.inr (.inl (fun _ => 0))))), (hM, .inl (cJ, 6, (.inr (.inl (fun _ => 0)))))]) [0, 1, 2, 3, 4, 5] rfl
      have hDc := hD.sub (ws' := [(x0, .inr (10, [.ref xTape, .ref xReader, .ref xBag, .ref xBld, .ref xAng, .ref xSum, .ref xPik, .int 0, .ref xHan, .ref xIns, .ref xShr, .ref xSta, .ref xTur])), (xSum, .inr (8, [.ref sM, .ref sP, .ref sA, .int 0])), (xHan, .inr (3, [.int 0, .int 0, .int 0, .ref hH, .ref hR, .ref hT, .ref hM])), (hH, .inl (cI, 7, (.inl (fun _ => 0)))), (hT, .inl (cJ, 7, (.inr (.inl (fun _ => 0))))), (hM, .inl (cJ, 6, (.inr (.inl (fun _ => 0)))))]) [0, 1, 2, 3, 4, 5] (by decide) rfl
      have hFc := va_free (wc := [(x0, .inr (10, [.ref xTape, .ref xReader, .ref xBag, .ref xBld, .ref xAng, .ref xSum, .ref xPik, .int 0, .ref xHan, .ref xIns, .ref xShr, .ref xSta, .ref xTur])), (xSum, .inr (8, [.ref sM, .ref sP, .ref sA, .int 0])), (xHan, .inr (3, [.int 0, .int 0, .int 0, .ref hH, .ref hR, .ref hT, .ref hM])), (hH, .inl (cI, 7, (.inl (fun _ => 0)))), (hT, .inl (cJ, 7, (.inr (.inl (fun _ => 0))))), (hM, .inl (cJ, 6, (.inr (.inl (fun _ => 0)))))]) hD hS hA [0, 1, 2, 3, 4, 5] rfl
      refine va_callv (va_runV (As := [.int 4]) (rest := []) ⟨hx, hb, hml, hown, hts⟩ (c_X10_hangSolids_4 l dC dI cB cI cJ H.size x0 xTape xReader xBag xBld xAng xSum xPik xHan xIns xShr xSta xTur sM sP sA hH hR hT hM (fun _ => 0) (fun _ => 0)) (cwV 1 hts gX10_relationOf_X10_hangSolids rfl rfl rfl (by decide +kernel) ⟨Nat.le_of_ble_eq_true rfl, Nat.le_of_ble_eq_true rfl⟩) ⟨fun a U g mk q => by obtain ⟨q0, q1, qP, qK, qD, qN0⟩ := q; exact ⟨q0, q1, qP, va_K.moved (u := U) (U := U.calling g mk a) (Vm.Alike.refl U.vm) qK, qD, va_Nw.same rfl rfl qN0⟩, va_recv hK hP (ci := 10) (q0 := 0) rfl rfl, fun U hU hW => ⟨rfl, by rw [hU], by rw [hU]; exact hPc, va_K.moved hW.alike hK, hDc.weaken (fun _ _ _ _ => trivial), va_Nw.warmM hW hN0⟩⟩ rfl rfl hl.1 rfl (lv_room (Nat.le_of_ble_eq_true rfl)) dX10_relationOf_19 ⟨Nat.le_of_ble_eq_true rfl, Nat.le_of_ble_eq_true rfl⟩) hS (fun q _ h => hFc q h) hFc (fun u t H1 locs ht hvm hw hB hz1 hk1 hS => ?_)
      obtain ⟨hP1, hK1, hD1⟩ := hB
      rw [ht] at hP1
      obtain ⟨hP, hD⟩ := va_join (wr := []) (w1 := [(x0, .inr (10, [.ref xTape, .ref xReader, .ref xBag, .ref xBld, .ref xAng, .ref xSum, .ref xPik, .int 0, .ref xHan, .ref xIns, .ref xShr, .ref xSta, .ref xTur])), (xHan, .inr (3, [.int 0, .int 1, .int 1, .ref hH, .ref hR, .ref hT, .ref hM])), (xSum, .inr (8, [.ref sM, .ref sP, .ref sA, .int 0])), (hH, .inl (cI, 7, (.inl (upd (fun _ => 0) (0 : Int32).toNatClampNeg 2)))), (hT, .inl (cJ, 7, (.inr (.inl (vp_updL (fun _ => 0) (0 : Int32).toNatClampNeg 1))))), (hM, .inl (cJ, 6, (.inr (.inl (vp_updL (fun _ => 0) (0 : Int32).toNatClampNeg 1)))))]) hP hD [0, 1, 2, 3, 4, 5] [] rfl rfl (by decide) (by decide) hk1 hFc hP1 hD1
      generalize H1 = H at hP hS ⊢
      have hP : va_P (dC, dI) vwCl [(x0, .inr (10, [.ref xTape, .ref xReader, .ref xBag, .ref xBld, .ref xAng, .ref xSum, .ref xPik, .int 0, .ref xHan, .ref xIns, .ref xShr, .ref xSta, .ref xTur])), (xHan, .inr (3, [.int 0, .int 1, .int 1, .ref hH, .ref hR, .ref hT, .ref hM])), (xSum, .inr (8, [.ref sM, .ref sP, .ref sA, .int 0])), (hH, .inl (cI, 7, (.inl (upd (fun _ => 0) (0 : Int32).toNatClampNeg 2)))), (hT, .inl (cJ, 7, (.inr (.inl (vp_updL (fun _ => 0) (0 : Int32).toNatClampNeg 1))))), (hM, .inl (cJ, 6, (.inr (.inl (vp_updL (fun _ => 0) (0 : Int32).toNatClampNeg 1)))))] H := hP
      have hD : va_D A [(x0, .inr (10, [.ref xTape, .ref xReader, .ref xBag, .ref xBld, .ref xAng, .ref xSum, .ref xPik, .int 0, .ref xHan, .ref xIns, .ref xShr, .ref xSta, .ref xTur])), (xHan, .inr (3, [.int 0, .int 1, .int 1, .ref hH, .ref hR, .ref hT, .ref hM])), (xSum, .inr (8, [.ref sM, .ref sP, .ref sA, .int 0])), (hH, .inl (cI, 7, (.inl (upd (fun _ => 0) (0 : Int32).toNatClampNeg 2)))), (hT, .inl (cJ, 7, (.inr (.inl (vp_updL (fun _ => 0) (0 : Int32).toNatClampNeg 1))))), (hM, .inl (cJ, 6, (.inr (.inl (vp_updL (fun _ => 0) (0 : Int32).toNatClampNeg 1)))))] := hD
      refine lv_aload_n hx hb dX10_relationOf_22 rfl (lv_at hl 0 rfl) ?_
      refine va_get (D := (dC, dI)) (ci := 10) (v := .ref xHan) (C := RX10) (T := TX10) (N := 13) hx hb hts hiX10 hown hK hP 0 rfl rfl 8 (by decide) (hts (.fieldLink RX10 61 "ScissorsTable" "hang" "LScissorsTable$Hang;") (by decide +kernel)) (fun _ h9 => h9) rfl dX10_relationOf_23 ?_
      have hPc := hP.sub (ws' := [(xHan, .inr (3, [.int 0, .int 1, .int 1, .ref hH, .ref hR, .ref hT, .ref hM])), (hM, .inl (cJ, 6, (.inr (.inl (vp_updL (fun _ => 0) (0 : Int32).toNatClampNeg 1)))))]) [1, 5] rfl
      have hDc := hD.sub (ws' := [(xHan, .inr (3, [.int 0, .int 1, .int 1, .ref hH, .ref hR, .ref hT, .ref hM])), (hM, .inl (cJ, 6, (.inr (.inl (vp_updL (fun _ => 0) (0 : Int32).toNatClampNeg 1)))))]) [1, 5] (by decide) rfl
      have hFc := va_free (wc := [(xHan, .inr (3, [.int 0, .int 1, .int 1, .ref hH, .ref hR, .ref hT, .ref hM])), (hM, .inl (cJ, 6, (.inr (.inl (vp_updL (fun _ => 0) (0 : Int32).toNatClampNeg 1)))))]) hD hS hA [1, 5] rfl
      refine va_calli (va_runV (As := []) (rest := []) ⟨hx, hb, hml, hown, hts⟩ (c_X3_canTell_t1 l dC dI cB cI cJ H.size xHan hH hR hT hM) (cwV 0 hts gX10_relationOf_X3_canTell rfl rfl rfl (by decide +kernel) ⟨Nat.le_of_ble_eq_true rfl, Nat.le_of_ble_eq_true rfl⟩) ⟨fun a U g mk q => by obtain ⟨q0, q1, qP, qK, qD⟩ := q; exact ⟨q0, q1, qP, va_K.moved (u := U) (U := U.calling g mk a) (Vm.Alike.refl U.vm) qK, qD⟩, va_recv hK hP (ci := 3) (q0 := 1) rfl rfl, fun U hU hW => ⟨rfl, by rw [hU], by rw [hU]; exact hPc, va_K.moved hW.alike hK, hDc.weaken (fun _ _ _ _ => trivial)⟩⟩ rfl rfl hl.1 rfl (lv_room (Nat.le_of_ble_eq_true rfl)) dX10_relationOf_26 ⟨Nat.le_of_ble_eq_true rfl, Nat.le_of_ble_eq_true rfl⟩) hS (fun q _ h => hFc q h) hFc (fun r_5 u t H1 locs ht hvm hw hB hz1 hk1 hS => ?_)
      obtain ⟨hP1, hK1, hD1⟩ := hB
      rw [ht] at hP1
      obtain ⟨hP, hD⟩ := va_join (wr := [(x0, .inr (10, [.ref xTape, .ref xReader, .ref xBag, .ref xBld, .ref xAng, .ref xSum, .ref xPik, .int 0, .ref xHan, .ref xIns, .ref xShr, .ref xSta, .ref xTur])), (xSum, .inr (8, [.ref sM, .ref sP, .ref sA, .int 0])), (hH, .inl (cI, 7, (.inl (upd (fun _ => 0) (0 : Int32).toNatClampNeg 2)))), (hT, .inl (cJ, 7, (.inr (.inl (vp_updL (fun _ => 0) (0 : Int32).toNatClampNeg 1)))))]) (w1 := [(xHan, .inr (3, [.int 0, .int 1, .int 1, .ref hH, .ref hR, .ref hT, .ref hM])), (hM, .inl (cJ, 6, (.inr (.inl (vp_updL (fun _ => 0) (0 : Int32).toNatClampNeg 1)))))]) hP hD [1, 5] [0, 2, 3, 4] rfl rfl (by decide) (by decide) hk1 hFc hP1 hD1
      generalize H1 = H at hP hS ⊢
      have hP : va_P (dC, dI) vwCl [(x0, .inr (10, [.ref xTape, .ref xReader, .ref xBag, .ref xBld, .ref xAng, .ref xSum, .ref xPik, .int 0, .ref xHan, .ref xIns, .ref xShr, .ref xSta, .ref xTur])), (xSum, .inr (8, [.ref sM, .ref sP, .ref sA, .int 0])), (hH, .inl (cI, 7, (.inl (upd (fun _ => 0) (0 : Int32).toNatClampNeg 2)))), (hT, .inl (cJ, 7, (.inr (.inl (vp_updL (fun _ => 0) (0 : Int32).toNatClampNeg 1))))), (xHan, .inr (3, [.int 0, .int 1, .int 1, .ref hH, .ref hR, .ref hT, .ref hM])), (hM, .inl (cJ, 6, (.inr (.inl (vp_updL (fun _ => 0) (0 : Int32).toNatClampNeg 1)))))] H := hP
      have hD : va_D A [(x0, .inr (10, [.ref xTape, .ref xReader, .ref xBag, .ref xBld, .ref xAng, .ref xSum, .ref xPik, .int 0, .ref xHan, .ref xIns, .ref xShr, .ref xSta, .ref xTur])), (xSum, .inr (8, [.ref sM, .ref sP, .ref sA, .int 0])), (hH, .inl (cI, 7, (.inl (upd (fun _ => 0) (0 : Int32).toNatClampNeg 2)))), (hT, .inl (cJ, 7, (.inr (.inl (vp_updL (fun _ => 0) (0 : Int32).toNatClampNeg 1))))), (xHan, .inr (3, [.int 0, .int 1, .int 1, .ref hH, .ref hR, .ref hT, .ref hM])), (hM, .inl (cJ, 6, (.inr (.inl (vp_updL (fun _ => 0) (0 : Int32).toNatClampNeg 1)))))] := hD
      have hr_5 := hw
      obtain rfl : r_5 = 1 := hr_5
      refine lv_if_ne (tgt := 35) hx hb dX10_relationOf_29 (by decide) (fun _ => ?_) (fun c => absurd c (by decide))
      rcases nk_split4 p1 (by (try simp only [nk_lt, nk_le, nk_eq, nk_wd, nk_c0, nk_c1, nk_c2, nk_c3, nk_c4, nk_c5, nk_c6, nk_c15, nk_c16, nk_c24, nk_c47, nk_c48, nk_c600, nk_c1728, nk_m1, nk_l0, nk_l1, nk_l2, nk_l3, nk_l5, nk_l15, nk_l24, nk_l47] at k_4); omega) with rfl | rfl | rfl | rfl
      · refine lv_iload_n hx hb dX10_relationOf_35 rfl (lv_at hl 1 rfl) ?_
        refine lv_iload_n hx hb dX10_relationOf_36 rfl (lv_at hl 2 rfl) ?_
        refine lv_ishr hx hb dX10_relationOf_37 ?_
        refine lv_topi (fun x_6 ex_6 => ?_)
        obtain rfl : x_6 = 4 := ex_6.trans (by first | rfl | decide)
        refine lv_iconst (v := 1) hx hb dX10_relationOf_38 (by decide) ?_
        refine lv_iand hx hb dX10_relationOf_39 ?_
        refine lv_topi (fun x_7 ex_7 => ?_)
        obtain rfl : x_7 = 0 := ex_7.trans (by first | rfl | decide)
        refine lv_if_ne (tgt := 45) hx hb dX10_relationOf_40 (by decide) (fun c => absurd (by decide) c) (fun _ => ?_)
        refine lv_iconst (v := 0) hx hb dX10_relationOf_43 (by decide) ?_
        refine W.widen (k := 0) (n := 0) (Nat.le_of_ble_eq_true rfl) (Nat.le_of_ble_eq_true rfl) ?_
        exact W.iret (v := 0) hx hb hr (fun t ht hW => ⟨⟨0, (), rfl, (by decide), trivial⟩, hS.F ht⟩) hS.2.2 dX10_relationOf_44
      · refine lv_iload_n hx hb dX10_relationOf_35 rfl (lv_at hl 1 rfl) ?_
        refine lv_iload_n hx hb dX10_relationOf_36 rfl (lv_at hl 2 rfl) ?_
        refine lv_ishr hx hb dX10_relationOf_37 ?_
        refine lv_topi (fun x_8 ex_8 => ?_)
        obtain rfl : x_8 = 2 := ex_8.trans (by first | rfl | decide)
        refine lv_iconst (v := 1) hx hb dX10_relationOf_38 (by decide) ?_
        refine lv_iand hx hb dX10_relationOf_39 ?_
        refine lv_topi (fun x_9 ex_9 => ?_)
        obtain rfl : x_9 = 0 := ex_9.trans (by first | rfl | decide)
        refine lv_if_ne (tgt := 45) hx hb dX10_relationOf_40 (by decide) (fun c => absurd (by decide) c) (fun _ => ?_)
        refine lv_iconst (v := 0) hx hb dX10_relationOf_43 (by decide) ?_
        refine W.widen (k := 0) (n := 0) (Nat.le_of_ble_eq_true rfl) (Nat.le_of_ble_eq_true rfl) ?_
        exact W.iret (v := 0) hx hb hr (fun t ht hW => ⟨⟨0, (), rfl, (by decide), trivial⟩, hS.F ht⟩) hS.2.2 dX10_relationOf_44
      · refine lv_iload_n hx hb dX10_relationOf_35 rfl (lv_at hl 1 rfl) ?_
        refine lv_iload_n hx hb dX10_relationOf_36 rfl (lv_at hl 2 rfl) ?_
        refine lv_ishr hx hb dX10_relationOf_37 ?_
        refine lv_topi (fun x_10 ex_10 => ?_)
        obtain rfl : x_10 = 1 := ex_10.trans (by first | rfl | decide)
        refine lv_iconst (v := 1) hx hb dX10_relationOf_38 (by decide) ?_
        refine lv_iand hx hb dX10_relationOf_39 ?_
        refine lv_topi (fun x_11 ex_11 => ?_)
        obtain rfl : x_11 = 1 := ex_11.trans (by first | rfl | decide)
        refine lv_if_ne (tgt := 45) hx hb dX10_relationOf_40 (by decide) (fun _ => ?_) (fun c => absurd c (by decide))
        refine lv_aload_n hx hb dX10_relationOf_45 rfl (lv_at hl 0 rfl) ?_
        refine va_get (D := (dC, dI)) (ci := 10) (v := .ref xHan) (C := RX10) (T := TX10) (N := 13) hx hb hts hiX10 hown hK hP 0 rfl rfl 8 (by decide) (hts (.fieldLink RX10 61 "ScissorsTable" "hang" "LScissorsTable$Hang;") (by decide +kernel)) (fun _ h9 => h9) rfl dX10_relationOf_46 ?_
        refine lv_iload_n hx hb dX10_relationOf_49 rfl (lv_at hl 1 rfl) ?_
        refine lv_iconst (v := 1) hx hb dX10_relationOf_50 (by decide) ?_
        refine lv_iload_n hx hb dX10_relationOf_51 rfl (lv_at hl 2 rfl) ?_
        refine lv_ishl hx hb dX10_relationOf_52 ?_
        refine lv_topi (fun x_12 ex_12 => ?_)
        obtain rfl : x_12 = 4 := ex_12.trans (by first | rfl | decide)
        refine lv_iconst (v := 1) hx hb dX10_relationOf_53 (by decide) ?_
        refine lv_isub hx hb dX10_relationOf_54 ?_
        refine lv_topi (fun x_13 ex_13 => ?_)
        obtain rfl : x_13 = 3 := ex_13.trans (by first | rfl | decide)
        refine lv_iand hx hb dX10_relationOf_55 ?_
        refine lv_topi (fun x_14 ex_14 => ?_)
        obtain rfl : x_14 = 0 := ex_14.trans (by first | rfl | decide)
        have hPc := hP.sub (ws' := []) [] rfl
        have hDc := hD.sub (ws' := []) [] (by decide) rfl
        have hFc := va_free (wc := []) hD hS hA [] rfl
        refine va_calli (va_runS (As := [.int 0]) (rest := [.ref xHan]) ⟨hx, hb, hml, hown, hts⟩ (c_J6_bitCount_0f7a4_0 l dC dI cB cI cJ H.size ) (va_cwS 1 hts gX10_relationOf_J6_bitCount_0f7a4 rfl rfl rfl (by decide +kernel) ⟨Nat.le_of_ble_eq_true rfl, Nat.le_of_ble_eq_true rfl⟩) ⟨fun a U g mk q => by obtain ⟨q0, q1, qP, qK, qD⟩ := q; exact ⟨q0, q1, qP, va_K.moved (u := U) (U := U.calling g mk a) (Vm.Alike.refl U.vm) qK, qD⟩, fun U hU hW => ⟨rfl, by rw [hU], by rw [hU]; exact hPc, va_K.moved hW.alike hK, hDc.weaken (fun _ _ _ _ => trivial)⟩⟩ rfl rfl hl.1 rfl (lv_room (Nat.le_of_ble_eq_true rfl)) dX10_relationOf_56 ⟨Nat.le_of_ble_eq_true rfl, Nat.le_of_ble_eq_true rfl⟩) hS (fun q _ h => hFc q h) hFc (fun r_15 u t H1 locs ht hvm hw hB hz1 hk1 hS => ?_)
        have hP1 : va_P (dC, dI) vwCl [] H1 := fun k q h => by simp at h
        have hD1 : va_D (va_A [] H.size) [] := ⟨fun i j p q h => by simp at h, fun k q h => by simp at h⟩
        obtain ⟨hP, hD⟩ := va_join (wr := [(x0, .inr (10, [.ref xTape, .ref xReader, .ref xBag, .ref xBld, .ref xAng, .ref xSum, .ref xPik, .int 0, .ref xHan, .ref xIns, .ref xShr, .ref xSta, .ref xTur])), (xSum, .inr (8, [.ref sM, .ref sP, .ref sA, .int 0])), (hH, .inl (cI, 7, (.inl (upd (fun _ => 0) (0 : Int32).toNatClampNeg 2)))), (hT, .inl (cJ, 7, (.inr (.inl (vp_updL (fun _ => 0) (0 : Int32).toNatClampNeg 1))))), (xHan, .inr (3, [.int 0, .int 1, .int 1, .ref hH, .ref hR, .ref hT, .ref hM])), (hM, .inl (cJ, 6, (.inr (.inl (vp_updL (fun _ => 0) (0 : Int32).toNatClampNeg 1)))))]) (w1 := []) hP hD [] [0, 1, 2, 3, 4, 5] rfl rfl (by decide) (by decide) hk1 hFc hP1 hD1
        generalize H1 = H at hP hS ⊢
        have hP : va_P (dC, dI) vwCl [(x0, .inr (10, [.ref xTape, .ref xReader, .ref xBag, .ref xBld, .ref xAng, .ref xSum, .ref xPik, .int 0, .ref xHan, .ref xIns, .ref xShr, .ref xSta, .ref xTur])), (xSum, .inr (8, [.ref sM, .ref sP, .ref sA, .int 0])), (hH, .inl (cI, 7, (.inl (upd (fun _ => 0) (0 : Int32).toNatClampNeg 2)))), (hT, .inl (cJ, 7, (.inr (.inl (vp_updL (fun _ => 0) (0 : Int32).toNatClampNeg 1))))), (xHan, .inr (3, [.int 0, .int 1, .int 1, .ref hH, .ref hR, .ref hT, .ref hM])), (hM, .inl (cJ, 6, (.inr (.inl (vp_updL (fun _ => 0) (0 : Int32).toNatClampNeg 1)))))] H := hP
        have hD : va_D A [(x0, .inr (10, [.ref xTape, .ref xReader, .ref xBag, .ref xBld, .ref xAng, .ref xSum, .ref xPik, .int 0, .ref xHan, .ref xIns, .ref xShr, .ref xSta, .ref xTur])), (xSum, .inr (8, [.ref sM, .ref sP, .ref sA, .int 0])), (hH, .inl (cI, 7, (.inl (upd (fun _ => 0) (0 : Int32).toNatClampNeg 2)))), (hT, .inl (cJ, 7, (.inr (.inl (vp_updL (fun _ => 0) (0 : Int32).toNatClampNeg 1))))), (xHan, .inr (3, [.int 0, .int 1, .int 1, .ref hH, .ref hR, .ref hT, .ref hM])), (hM, .inl (cJ, 6, (.inr (.inl (vp_updL (fun _ => 0) (0 : Int32).toNatClampNeg 1)))))] := hD
        have hr_15 := hw
        obtain rfl : r_15 = 0 := hr_15
        have hPc := hP.sub (ws' := [(xHan, .inr (3, [.int 0, .int 1, .int 1, .ref hH, .ref hR, .ref hT, .ref hM])), (hM, .inl (cJ, 6, (.inr (.inl (vp_updL (fun _ => 0) (0 : Int32).toNatClampNeg 1)))))]) [4, 5] rfl
        have hDc := hD.sub (ws' := [(xHan, .inr (3, [.int 0, .int 1, .int 1, .ref hH, .ref hR, .ref hT, .ref hM])), (hM, .inl (cJ, 6, (.inr (.inl (vp_updL (fun _ => 0) (0 : Int32).toNatClampNeg 1)))))]) [4, 5] (by decide) rfl
        have hFc := va_free (wc := [(xHan, .inr (3, [.int 0, .int 1, .int 1, .ref hH, .ref hR, .ref hT, .ref hM])), (hM, .inl (cJ, 6, (.inr (.inl (vp_updL (fun _ => 0) (0 : Int32).toNatClampNeg 1)))))]) hD hS hA [4, 5] rfl
        refine va_calli (va_runV (As := [.int 0]) (rest := []) ⟨hx, hb, hml, hown, hts⟩ (c_X3_timesOf_t1_0 l dC dI cB cI cJ H.size xHan hH hR hT hM) (cwV 1 hts gX10_relationOf_X3_timesOf rfl rfl rfl (by decide +kernel) ⟨Nat.le_of_ble_eq_true rfl, Nat.le_of_ble_eq_true rfl⟩) ⟨fun a U g mk q => by obtain ⟨q0, q1, qP, qK, qD⟩ := q; exact ⟨q0, q1, qP, va_K.moved (u := U) (U := U.calling g mk a) (Vm.Alike.refl U.vm) qK, qD⟩, va_recv hK hP (ci := 3) (q0 := 4) rfl rfl, fun U hU hW => ⟨rfl, by rw [hU], by rw [hU]; exact hPc, va_K.moved hW.alike hK, hDc.weaken (fun _ _ _ _ => trivial)⟩⟩ rfl rfl hl.1 rfl (lv_room (Nat.le_of_ble_eq_true rfl)) dX10_relationOf_59 ⟨Nat.le_of_ble_eq_true rfl, Nat.le_of_ble_eq_true rfl⟩) hS (fun q _ h => hFc q h) hFc (fun r_16 u t H1 locs ht hvm hw hB hz1 hk1 hS => ?_)
        have hP1 : va_P (dC, dI) vwCl [] H1 := fun k q h => by simp at h
        have hD1 : va_D (va_A [(xHan, .inr (3, [.int 0, .int 1, .int 1, .ref hH, .ref hR, .ref hT, .ref hM])), (hM, .inl (cJ, 6, (.inr (.inl (vp_updL (fun _ => 0) (0 : Int32).toNatClampNeg 1)))))] H.size) [] := ⟨fun i j p q h => by simp at h, fun k q h => by simp at h⟩
        obtain ⟨hP, hD⟩ := va_join (wr := [(x0, .inr (10, [.ref xTape, .ref xReader, .ref xBag, .ref xBld, .ref xAng, .ref xSum, .ref xPik, .int 0, .ref xHan, .ref xIns, .ref xShr, .ref xSta, .ref xTur])), (xSum, .inr (8, [.ref sM, .ref sP, .ref sA, .int 0])), (hH, .inl (cI, 7, (.inl (upd (fun _ => 0) (0 : Int32).toNatClampNeg 2)))), (hT, .inl (cJ, 7, (.inr (.inl (vp_updL (fun _ => 0) (0 : Int32).toNatClampNeg 1)))))]) (w1 := []) hP hD [4, 5] [0, 1, 2, 3] rfl rfl (by decide) (by decide) hk1 hFc hP1 hD1
        generalize H1 = H at hP hS ⊢
        have hP : va_P (dC, dI) vwCl [(x0, .inr (10, [.ref xTape, .ref xReader, .ref xBag, .ref xBld, .ref xAng, .ref xSum, .ref xPik, .int 0, .ref xHan, .ref xIns, .ref xShr, .ref xSta, .ref xTur])), (xSum, .inr (8, [.ref sM, .ref sP, .ref sA, .int 0])), (hH, .inl (cI, 7, (.inl (upd (fun _ => 0) (0 : Int32).toNatClampNeg 2)))), (hT, .inl (cJ, 7, (.inr (.inl (vp_updL (fun _ => 0) (0 : Int32).toNatClampNeg 1)))))] H := hP
        have hD : va_D A [(x0, .inr (10, [.ref xTape, .ref xReader, .ref xBag, .ref xBld, .ref xAng, .ref xSum, .ref xPik, .int 0, .ref xHan, .ref xIns, .ref xShr, .ref xSta, .ref xTur])), (xSum, .inr (8, [.ref sM, .ref sP, .ref sA, .int 0])), (hH, .inl (cI, 7, (.inl (upd (fun _ => 0) (0 : Int32).toNatClampNeg 2)))), (hT, .inl (cJ, 7, (.inr (.inl (vp_updL (fun _ => 0) (0 : Int32).toNatClampNeg 1)))))] := hD
        have hr_16 := hw
        obtain rfl : r_16 = 1 := hr_16
        refine W.widen (k := 0) (n := 0) (Nat.le_of_ble_eq_true rfl) (Nat.le_of_ble_eq_true rfl) ?_
        exact W.iret (v := 1) hx hb hr (fun t ht hW => ⟨⟨1, (), rfl, (by decide), trivial⟩, hS.F ht⟩) hS.2.2 dX10_relationOf_62
      · refine lv_iload_n hx hb dX10_relationOf_35 rfl (lv_at hl 1 rfl) ?_
        refine lv_iload_n hx hb dX10_relationOf_36 rfl (lv_at hl 2 rfl) ?_
        refine lv_ishr hx hb dX10_relationOf_37 ?_
        refine lv_topi (fun x_17 ex_17 => ?_)
        obtain rfl : x_17 = 0 := ex_17.trans (by first | rfl | decide)
        refine lv_iconst (v := 1) hx hb dX10_relationOf_38 (by decide) ?_
        refine lv_iand hx hb dX10_relationOf_39 ?_
        refine lv_topi (fun x_18 ex_18 => ?_)
        obtain rfl : x_18 = 0 := ex_18.trans (by first | rfl | decide)
        refine lv_if_ne (tgt := 45) hx hb dX10_relationOf_40 (by decide) (fun c => absurd (by decide) c) (fun _ => ?_)
        refine lv_iconst (v := 0) hx hb dX10_relationOf_43 (by decide) ?_
        refine W.widen (k := 0) (n := 0) (Nat.le_of_ble_eq_true rfl) (Nat.le_of_ble_eq_true rfl) ?_
        exact W.iret (v := 0) hx hb hr (fun t ht hW => ⟨⟨0, (), rfl, (by decide), trivial⟩, hS.F ht⟩) hS.2.2 dX10_relationOf_44
set_option maxHeartbeats 4000000 in
set_option maxRecDepth 100000 in
theorem c_X10_relationOf_5 (l : Launch) (dC : Nat → ClassId) (dI : Nat → Nat → Nat) (cB cI cJ : ClassId) (sz : Nat) (x0 xTape xReader xBag xBld xAng xSum xPik xHan xIns xShr xSta xTur sM sP sA hH hR hT hM : Nat) (p1 : Int32) : Met l yX10_relationOf wsX10_relationOf ({ frames := 12, cells := 0, slots := 0, locals := 400 }) (va_Pc [.ref x0, .int 5, .int p1] (fun U => U.heap.size = sz ∧ va_P (dC, dI) vwCl [(x0, .inr (10, [.ref xTape, .ref xReader, .ref xBag, .ref xBld, .ref xAng, .ref xSum, .ref xPik, .int 0, .ref xHan, .ref xIns, .ref xShr, .ref xSta, .ref xTur])), (xSum, .inr (8, [.ref sM, .ref sP, .ref sA, .int 0])), (xHan, .inr (3, [.int 0, .int 0, .int 0, .ref hH, .ref hR, .ref hT, .ref hM])), (hH, .inl (cI, 7, (.inl (fun _ => 0)))), (hT, .inl (cJ, 7, (.inr (.inl (fun _ => 0))))), (hM, .inl (cJ, 6, (.inr (.inl (fun _ => 0)))))] U.heap ∧ va_K (dC, dI) vwCl [(cB, .byte), (cI, .int), (cJ, .long)] U ∧ va_D (fun _ => True) [(x0, .inr (10, [.ref xTape, .ref xReader, .ref xBag, .ref xBld, .ref xAng, .ref xSum, .ref xPik, .int 0, .ref xHan, .ref xIns, .ref xShr, .ref xSta, .ref xTur])), (xSum, .inr (8, [.ref sM, .ref sP, .ref sA, .int 0])), (xHan, .inr (3, [.int 0, .int 0, .int 0, .ref hH, .ref hR, .ref hT, .ref hM])), (hH, .inl (cI, 7, (.inl (fun _ => 0)))), (hT, .inl (cJ, 7, (.inr (.inl (fun _ => 0))))), (hM, .inl (cJ, 6, (.inr (.inl (fun _ => 0)))))] ∧ va_Nw (.methodLinkNest RX3 62 yX10_gcd "ScissorsTable") U)) (va_Qi (fun (r : Int32) (_ : Unit) => r = sp_rel 5 p1) (fun _ _ => True) (va_A [(x0, .inr (10, [.ref xTape, .ref xReader, .ref xBag, .ref xBld, .ref xAng, .ref xSum, .ref xPik, .int 0, .ref xHan, .ref xIns, .ref xShr, .ref xSta, .ref xTur])), (xSum, .inr (8, [.ref sM, .ref sP, .ref sA, .int 0])), (xHan, .inr (3, [.int 0, .int 0, .int 0, .ref hH, .ref hR, .ref hT, .ref hM])), (hH, .inl (cI, 7, (.inl (fun _ => 0)))), (hT, .inl (cJ, 7, (.inr (.inl (fun _ => 0))))), (hM, .inl (cJ, 6, (.inr (.inl (fun _ => 0)))))] sz)) 0 0 (va_A [(x0, .inr (10, [.ref xTape, .ref xReader, .ref xBag, .ref xBld, .ref xAng, .ref xSum, .ref xPik, .int 0, .ref xHan, .ref xIns, .ref xShr, .ref xSta, .ref xTur])), (xSum, .inr (8, [.ref sM, .ref sP, .ref sA, .int 0])), (xHan, .inr (3, [.int 0, .int 0, .int 0, .ref hH, .ref hR, .ref hT, .ref hM])), (hH, .inl (cI, 7, (.inl (fun _ => 0)))), (hT, .inl (cJ, 7, (.inr (.inl (fun _ => 0))))), (hM, .inl (cJ, 6, (.inr (.inl (fun _ => 0)))))] sz) := by
  refine Met.ofW (cc := cX10_relationOf) (maxL := 3) (ret := (some .int)) (by decide) rfl ?_
  intro p e s m args below meth c s₁ B hml hv
  obtain ⟨rfl, hsz, hP, hK, hD0, hN0⟩ := hv
  have hx := B.exec
  have hb := B.bytes
  have hr := B.returns
  have hts := atoms_spec (ws := wsX10_relationOf) B.pre
  have hown : s.vm.findClass RX10 = some m.cls := findClass_of_methodNamed B.named
  have hlocks := B.notSynchronized
  have hiX10 : ∀ w ∈ u_ws RX10 TX10 13, w ∈ wsX10_relationOf := by decide +kernel
  subst hsz
  have hD := hD0.self (sz := s.heap.size)
  generalize hAe : va_A [(x0, .inr (10, [.ref xTape, .ref xReader, .ref xBag, .ref xBld, .ref xAng, .ref xSum, .ref xPik, .int 0, .ref xHan, .ref xIns, .ref xShr, .ref xSta, .ref xTur])), (xSum, .inr (8, [.ref sM, .ref sP, .ref sA, .int 0])), (xHan, .inr (3, [.int 0, .int 0, .int 0, .ref hH, .ref hR, .ref hT, .ref hM])), (hH, .inl (cI, 7, (.inl (fun _ => 0)))), (hT, .inl (cJ, 7, (.inr (.inl (fun _ => 0))))), (hM, .inl (cJ, 6, (.inr (.inl (fun _ => 0)))))] s.heap.size = A at hD ⊢
  have hA : ∀ q : Nat, s.heap.size ≤ q → A q := fun q h => by rw [← hAe]; exact Or.inr h
  have hS : va_S A s.heap s.heap [] := va_S.rf
  have hP : va_P (dC, dI) vwCl [(x0, .inr (10, [.ref xTape, .ref xReader, .ref xBag, .ref xBld, .ref xAng, .ref xSum, .ref xPik, .int 0, .ref xHan, .ref xIns, .ref xShr, .ref xSta, .ref xTur])), (xSum, .inr (8, [.ref sM, .ref sP, .ref sA, .int 0])), (xHan, .inr (3, [.int 0, .int 0, .int 0, .ref hH, .ref hR, .ref hT, .ref hM])), (hH, .inl (cI, 7, (.inl (fun _ => 0)))), (hT, .inl (cJ, 7, (.inr (.inl (fun _ => 0))))), (hM, .inl (cJ, 6, (.inr (.inl (fun _ => 0)))))] s.heap := hP
  have hl := lv_entry ([.ref x0, .int 5, .int p1]) (n := 3) (Nat.le_of_ble_eq_true rfl)
  rw [lg_entry_eq]
  generalize (lg_sl ([.ref x0, .int 5, .int p1]) ++ List.replicate (3 - (lg_sl ([.ref x0, .int 5, .int p1])).length) Slot.unset).toArray = ls at hl ⊢
  have hl : lv_has ls 3 [(0, .ref x0), (1, .int 5), (2, .int p1)] := hl
  refine lv_iload_n hx hb dX10_relationOf_0 rfl (lv_at hl 1 rfl) ?_
  have hPc := hP.sub (ws' := []) [] rfl
  have hDc := hD.sub (ws' := []) [] (by decide) rfl
  have hFc := va_free (wc := []) hD hS hA [] rfl
  refine va_calli (va_runS (As := [.int 5]) (rest := []) ⟨hx, hb, hml, hown, hts⟩ (c_X10_isSetOfSolids l dC dI cB cI cJ s.heap.size 5) (va_cwS 1 hts gX10_relationOf_X10_isSetOfSolids rfl rfl rfl (by decide +kernel) ⟨Nat.le_of_ble_eq_true rfl, Nat.le_of_ble_eq_true rfl⟩) ⟨fun a U g mk q => by obtain ⟨q0, q1, qP, qK, qD⟩ := q; exact ⟨q0, q1, qP, va_K.moved (u := U) (U := U.calling g mk a) (Vm.Alike.refl U.vm) qK, qD⟩, fun U hU hW => ⟨rfl, by rw [hU], by rw [hU]; exact hPc, va_K.moved hW.alike hK, hDc.weaken (fun _ _ _ _ => trivial)⟩⟩ rfl rfl hl.1 rfl (lv_room (Nat.le_of_ble_eq_true rfl)) dX10_relationOf_1 ⟨Nat.le_of_ble_eq_true rfl, Nat.le_of_ble_eq_true rfl⟩) hS (fun q _ h => hFc q h) hFc (fun r_1 u t H1 locs ht hvm hw hB hz1 hk1 hS => ?_)
  have hP1 : va_P (dC, dI) vwCl [] H1 := fun k q h => by simp at h
  have hD1 : va_D (va_A [] s.heap.size) [] := ⟨fun i j p q h => by simp at h, fun k q h => by simp at h⟩
  obtain ⟨hP, hD⟩ := va_join (wr := [(x0, .inr (10, [.ref xTape, .ref xReader, .ref xBag, .ref xBld, .ref xAng, .ref xSum, .ref xPik, .int 0, .ref xHan, .ref xIns, .ref xShr, .ref xSta, .ref xTur])), (xSum, .inr (8, [.ref sM, .ref sP, .ref sA, .int 0])), (xHan, .inr (3, [.int 0, .int 0, .int 0, .ref hH, .ref hR, .ref hT, .ref hM])), (hH, .inl (cI, 7, (.inl (fun _ => 0)))), (hT, .inl (cJ, 7, (.inr (.inl (fun _ => 0))))), (hM, .inl (cJ, 6, (.inr (.inl (fun _ => 0)))))]) (w1 := []) hP hD [] [0, 1, 2, 3, 4, 5] rfl rfl (by decide) (by decide) hk1 hFc hP1 hD1
  generalize H1 = H at hP hS ⊢
  have hP : va_P (dC, dI) vwCl [(x0, .inr (10, [.ref xTape, .ref xReader, .ref xBag, .ref xBld, .ref xAng, .ref xSum, .ref xPik, .int 0, .ref xHan, .ref xIns, .ref xShr, .ref xSta, .ref xTur])), (xSum, .inr (8, [.ref sM, .ref sP, .ref sA, .int 0])), (xHan, .inr (3, [.int 0, .int 0, .int 0, .ref hH, .ref hR, .ref hT, .ref hM])), (hH, .inl (cI, 7, (.inl (fun _ => 0)))), (hT, .inl (cJ, 7, (.inr (.inl (fun _ => 0))))), (hM, .inl (cJ, 6, (.inr (.inl (fun _ => 0)))))] H := hP
  have hD : va_D A [(x0, .inr (10, [.ref xTape, .ref xReader, .ref xBag, .ref xBld, .ref xAng, .ref xSum, .ref xPik, .int 0, .ref xHan, .ref xIns, .ref xShr, .ref xSta, .ref xTur])), (xSum, .inr (8, [.ref sM, .ref sP, .ref sA, .int 0])), (xHan, .inr (3, [.int 0, .int 0, .int 0, .ref hH, .ref hR, .ref hT, .ref hM])), (hH, .inl (cI, 7, (.inl (fun _ => 0)))), (hT, .inl (cJ, 7, (.inr (.inl (fun _ => 0))))), (hM, .inl (cJ, 6, (.inr (.inl (fun _ => 0)))))] := hD
  rcases hw with ⟨rfl, k_2⟩ | ⟨rfl, k_2⟩
  · refine lv_if_eq (tgt := 14) hx hb dX10_relationOf_4 (by decide) (fun _ => ?_) (fun c => absurd (by decide) c)
    refine lv_ldc (v := (-1000000)) hx hb hown (hts (.constant RX10 140 (-1000000)) (by decide +kernel)) dX10_relationOf_14 ?_
    refine W.widen (k := 0) (n := 0) (Nat.le_of_ble_eq_true rfl) (Nat.le_of_ble_eq_true rfl) ?_
    exact W.iret (v := (-1000000)) hx hb hr (fun t ht hW => ⟨⟨(-1000000), (), rfl, (absurd (by decide) k_2), trivial⟩, hS.F ht⟩) hS.2.2 dX10_relationOf_16
  · refine lv_if_eq (tgt := 14) hx hb dX10_relationOf_4 (by decide) (fun c => absurd c (by decide)) (fun _ => ?_)
    refine lv_iload_n hx hb dX10_relationOf_7 rfl (lv_at hl 2 rfl) ?_
    have hPc := hP.sub (ws' := []) [] rfl
    have hDc := hD.sub (ws' := []) [] (by decide) rfl
    have hFc := va_free (wc := []) hD hS hA [] rfl
    refine va_calli (va_runS (As := [.int p1]) (rest := []) ⟨hx, hb, hml, hown, hts⟩ (c_X10_isSolid l dC dI cB cI cJ H.size p1) (va_cwS 1 hts gX10_relationOf_X10_isSolid rfl rfl rfl (by decide +kernel) ⟨Nat.le_of_ble_eq_true rfl, Nat.le_of_ble_eq_true rfl⟩) ⟨fun a U g mk q => by obtain ⟨q0, q1, qP, qK, qD⟩ := q; exact ⟨q0, q1, qP, va_K.moved (u := U) (U := U.calling g mk a) (Vm.Alike.refl U.vm) qK, qD⟩, fun U hU hW => ⟨rfl, by rw [hU], by rw [hU]; exact hPc, va_K.moved hW.alike hK, hDc.weaken (fun _ _ _ _ => trivial)⟩⟩ rfl rfl hl.1 rfl (lv_room (Nat.le_of_ble_eq_true rfl)) dX10_relationOf_8 ⟨Nat.le_of_ble_eq_true rfl, Nat.le_of_ble_eq_true rfl⟩) hS (fun q _ h => hFc q h) hFc (fun r_3 u t H1 locs ht hvm hw hB hz1 hk1 hS => ?_)
    have hP1 : va_P (dC, dI) vwCl [] H1 := fun k q h => by simp at h
    have hD1 : va_D (va_A [] H.size) [] := ⟨fun i j p q h => by simp at h, fun k q h => by simp at h⟩
    obtain ⟨hP, hD⟩ := va_join (wr := [(x0, .inr (10, [.ref xTape, .ref xReader, .ref xBag, .ref xBld, .ref xAng, .ref xSum, .ref xPik, .int 0, .ref xHan, .ref xIns, .ref xShr, .ref xSta, .ref xTur])), (xSum, .inr (8, [.ref sM, .ref sP, .ref sA, .int 0])), (xHan, .inr (3, [.int 0, .int 0, .int 0, .ref hH, .ref hR, .ref hT, .ref hM])), (hH, .inl (cI, 7, (.inl (fun _ => 0)))), (hT, .inl (cJ, 7, (.inr (.inl (fun _ => 0))))), (hM, .inl (cJ, 6, (.inr (.inl (fun _ => 0)))))]) (w1 := []) hP hD [] [0, 1, 2, 3, 4, 5] rfl rfl (by decide) (by decide) hk1 hFc hP1 hD1
    generalize H1 = H at hP hS ⊢
    have hP : va_P (dC, dI) vwCl [(x0, .inr (10, [.ref xTape, .ref xReader, .ref xBag, .ref xBld, .ref xAng, .ref xSum, .ref xPik, .int 0, .ref xHan, .ref xIns, .ref xShr, .ref xSta, .ref xTur])), (xSum, .inr (8, [.ref sM, .ref sP, .ref sA, .int 0])), (xHan, .inr (3, [.int 0, .int 0, .int 0, .ref hH, .ref hR, .ref hT, .ref hM])), (hH, .inl (cI, 7, (.inl (fun _ => 0)))), (hT, .inl (cJ, 7, (.inr (.inl (fun _ => 0))))), (hM, .inl (cJ, 6, (.inr (.inl (fun _ => 0)))))] H := hP
    have hD : va_D A [(x0, .inr (10, [.ref xTape, .ref xReader, .ref xBag, .ref xBld, .ref xAng, .ref xSum, .ref xPik, .int 0, .ref xHan, .ref xIns, .ref xShr, .ref xSta, .ref xTur])), (xSum, .inr (8, [.ref sM, .ref sP, .ref sA, .int 0])), (xHan, .inr (3, [.int 0, .int 0, .int 0, .ref hH, .ref hR, .ref hT, .ref hM])), (hH, .inl (cI, 7, (.inl (fun _ => 0)))), (hT, .inl (cJ, 7, (.inr (.inl (fun _ => 0))))), (hM, .inl (cJ, 6, (.inr (.inl (fun _ => 0)))))] := hD
    rcases hw with ⟨rfl, k_4⟩ | ⟨rfl, k_4⟩
    · refine lv_if_ne (tgt := 17) hx hb dX10_relationOf_11 (by decide) (fun c => absurd (by decide) c) (fun _ => ?_)
      refine lv_ldc (v := (-1000000)) hx hb hown (hts (.constant RX10 140 (-1000000)) (by decide +kernel)) dX10_relationOf_14 ?_
      refine W.widen (k := 0) (n := 0) (Nat.le_of_ble_eq_true rfl) (Nat.le_of_ble_eq_true rfl) ?_
      exact W.iret (v := (-1000000)) hx hb hr (fun t ht hW => ⟨⟨(-1000000), (), rfl, (show (-1000000 : Int32) = sp_rel 5 p1 from (by unfold sp_rel; rw [if_neg (fun h9 => k_4 h9.2)])), trivial⟩, hS.F ht⟩) hS.2.2 dX10_relationOf_16
    · refine lv_if_ne (tgt := 17) hx hb dX10_relationOf_11 (by decide) (fun _ => ?_) (fun c => absurd c (by decide))
      refine lv_aload_n hx hb dX10_relationOf_17 rfl (lv_at hl 0 rfl) ?_
      refine lv_iload_n hx hb dX10_relationOf_18 rfl (lv_at hl 1 rfl) ?_
      have hPc := hP.sub (ws' := [(x0, .inr (10, [.ref xTape, .ref xReader, .ref xBag, .ref xBld, .ref xAng, .ref xSum, .ref xPik, .int 0, .ref xHan, .ref xIns, .ref xShr, .ref xSta, .ref xTur])), (xSum, .inr (8, [.ref sM, .ref sP, .ref sA, .int 0])), (xHan, .inr (3, [.int 0, .int 0, .int 0, .ref hH, .ref hR, .ref hT, .ref hM])), (hH, .inl (cI, 7, (.inl (fun _ => 0)))), (hT, .inl (cJ, 7, (.inr (.inl (fun _ => 0))))), (hM, .inl (cJ, 6, (.inr (.inl (fun _ => 0)))))]) [0, 1, 2, 3, 4, 5] rfl
      have hDc := hD.sub (ws' := [(x0, .inr (10, [.ref xTape, .ref xReader, .ref xBag, .ref xBld, .ref xAng, .ref xSum, .ref xPik, .int 0, .ref xHan, .ref xIns, .ref xShr, .ref xSta, .ref xTur])), (xSum, .inr (8, [.ref sM, .ref sP, .ref sA, .int 0])), (xHan, .inr (3, [.int 0, .int 0, .int 0, .ref hH, .ref hR, .ref hT, .ref hM])), (hH, .inl (cI, 7, (.inl (fun _ => 0)))), (hT, .inl (cJ, 7, (.inr (.inl (fun _ => 0))))), (hM, .inl (cJ, 6, (.inr (.inl (fun _ => 0)))))]) [0, 1, 2, 3, 4, 5] (by decide) rfl
      have hFc := va_free (wc := [(x0, .inr (10, [.ref xTape, .ref xReader, .ref xBag, .ref xBld, .ref xAng, .ref xSum, .ref xPik, .int 0, .ref xHan, .ref xIns, .ref xShr, .ref xSta, .ref xTur])), (xSum, .inr (8, [.ref sM, .ref sP, .ref sA, .int 0])), (xHan, .inr (3, [.int 0, .int 0, .int 0, .ref hH, .ref hR, .ref hT, .ref hM])), (hH, .inl (cI, 7, (.inl (fun _ => 0)))), (hT, .inl (cJ, 7, (.inr (.inl (fun _ => 0))))), (hM, .inl (cJ, 6, (.inr (.inl (fun _ => 0)))))]) hD hS hA [0, 1, 2, 3, 4, 5] rfl
      refine va_callv (va_runV (As := [.int 5]) (rest := []) ⟨hx, hb, hml, hown, hts⟩ (c_X10_hangSolids_5 l dC dI cB cI cJ H.size x0 xTape xReader xBag xBld xAng xSum xPik xHan xIns xShr xSta xTur sM sP sA hH hR hT hM (fun _ => 0) (fun _ => 0)) (cwV 1 hts gX10_relationOf_X10_hangSolids rfl rfl rfl (by decide +kernel) ⟨Nat.le_of_ble_eq_true rfl, Nat.le_of_ble_eq_true rfl⟩) ⟨fun a U g mk q => by obtain ⟨q0, q1, qP, qK, qD, qN0⟩ := q; exact ⟨q0, q1, qP, va_K.moved (u := U) (U := U.calling g mk a) (Vm.Alike.refl U.vm) qK, qD, va_Nw.same rfl rfl qN0⟩, va_recv hK hP (ci := 10) (q0 := 0) rfl rfl, fun U hU hW => ⟨rfl, by rw [hU], by rw [hU]; exact hPc, va_K.moved hW.alike hK, hDc.weaken (fun _ _ _ _ => trivial), va_Nw.warmM hW hN0⟩⟩ rfl rfl hl.1 rfl (lv_room (Nat.le_of_ble_eq_true rfl)) dX10_relationOf_19 ⟨Nat.le_of_ble_eq_true rfl, Nat.le_of_ble_eq_true rfl⟩) hS (fun q _ h => hFc q h) hFc (fun u t H1 locs ht hvm hw hB hz1 hk1 hS => ?_)
      obtain ⟨hP1, hK1, hD1⟩ := hB
      rw [ht] at hP1
      obtain ⟨hP, hD⟩ := va_join (wr := []) (w1 := [(x0, .inr (10, [.ref xTape, .ref xReader, .ref xBag, .ref xBld, .ref xAng, .ref xSum, .ref xPik, .int 0, .ref xHan, .ref xIns, .ref xShr, .ref xSta, .ref xTur])), (xHan, .inr (3, [.int 0, .int 2, .int 1, .ref hH, .ref hR, .ref hT, .ref hM])), (xSum, .inr (8, [.ref sM, .ref sP, .ref sA, .int 0])), (hH, .inl (cI, 7, (.inl (upd (upd (fun _ => 0) (0 : Int32).toNatClampNeg 0) (0 : Int32).toNatClampNeg 2)))), (hT, .inl (cJ, 7, (.inr (.inl (vp_updL (vp_updL (fun _ => 0) (0 : Int32).toNatClampNeg 1) (0 : Int32).toNatClampNeg 1))))), (hM, .inl (cJ, 6, (.inr (.inl (vp_updL (fun _ => 0) (0 : Int32).toNatClampNeg 1)))))]) hP hD [0, 1, 2, 3, 4, 5] [] rfl rfl (by decide) (by decide) hk1 hFc hP1 hD1
      generalize H1 = H at hP hS ⊢
      have hP : va_P (dC, dI) vwCl [(x0, .inr (10, [.ref xTape, .ref xReader, .ref xBag, .ref xBld, .ref xAng, .ref xSum, .ref xPik, .int 0, .ref xHan, .ref xIns, .ref xShr, .ref xSta, .ref xTur])), (xHan, .inr (3, [.int 0, .int 2, .int 1, .ref hH, .ref hR, .ref hT, .ref hM])), (xSum, .inr (8, [.ref sM, .ref sP, .ref sA, .int 0])), (hH, .inl (cI, 7, (.inl (upd (upd (fun _ => 0) (0 : Int32).toNatClampNeg 0) (0 : Int32).toNatClampNeg 2)))), (hT, .inl (cJ, 7, (.inr (.inl (vp_updL (vp_updL (fun _ => 0) (0 : Int32).toNatClampNeg 1) (0 : Int32).toNatClampNeg 1))))), (hM, .inl (cJ, 6, (.inr (.inl (vp_updL (fun _ => 0) (0 : Int32).toNatClampNeg 1)))))] H := hP
      have hD : va_D A [(x0, .inr (10, [.ref xTape, .ref xReader, .ref xBag, .ref xBld, .ref xAng, .ref xSum, .ref xPik, .int 0, .ref xHan, .ref xIns, .ref xShr, .ref xSta, .ref xTur])), (xHan, .inr (3, [.int 0, .int 2, .int 1, .ref hH, .ref hR, .ref hT, .ref hM])), (xSum, .inr (8, [.ref sM, .ref sP, .ref sA, .int 0])), (hH, .inl (cI, 7, (.inl (upd (upd (fun _ => 0) (0 : Int32).toNatClampNeg 0) (0 : Int32).toNatClampNeg 2)))), (hT, .inl (cJ, 7, (.inr (.inl (vp_updL (vp_updL (fun _ => 0) (0 : Int32).toNatClampNeg 1) (0 : Int32).toNatClampNeg 1))))), (hM, .inl (cJ, 6, (.inr (.inl (vp_updL (fun _ => 0) (0 : Int32).toNatClampNeg 1)))))] := hD
      refine lv_aload_n hx hb dX10_relationOf_22 rfl (lv_at hl 0 rfl) ?_
      refine va_get (D := (dC, dI)) (ci := 10) (v := .ref xHan) (C := RX10) (T := TX10) (N := 13) hx hb hts hiX10 hown hK hP 0 rfl rfl 8 (by decide) (hts (.fieldLink RX10 61 "ScissorsTable" "hang" "LScissorsTable$Hang;") (by decide +kernel)) (fun _ h9 => h9) rfl dX10_relationOf_23 ?_
      have hPc := hP.sub (ws' := [(xHan, .inr (3, [.int 0, .int 2, .int 1, .ref hH, .ref hR, .ref hT, .ref hM])), (hM, .inl (cJ, 6, (.inr (.inl (vp_updL (fun _ => 0) (0 : Int32).toNatClampNeg 1)))))]) [1, 5] rfl
      have hDc := hD.sub (ws' := [(xHan, .inr (3, [.int 0, .int 2, .int 1, .ref hH, .ref hR, .ref hT, .ref hM])), (hM, .inl (cJ, 6, (.inr (.inl (vp_updL (fun _ => 0) (0 : Int32).toNatClampNeg 1)))))]) [1, 5] (by decide) rfl
      have hFc := va_free (wc := [(xHan, .inr (3, [.int 0, .int 2, .int 1, .ref hH, .ref hR, .ref hT, .ref hM])), (hM, .inl (cJ, 6, (.inr (.inl (vp_updL (fun _ => 0) (0 : Int32).toNatClampNeg 1)))))]) hD hS hA [1, 5] rfl
      refine va_calli (va_runV (As := []) (rest := []) ⟨hx, hb, hml, hown, hts⟩ (c_X3_canTell_t2 l dC dI cB cI cJ H.size xHan hH hR hT hM) (cwV 0 hts gX10_relationOf_X3_canTell rfl rfl rfl (by decide +kernel) ⟨Nat.le_of_ble_eq_true rfl, Nat.le_of_ble_eq_true rfl⟩) ⟨fun a U g mk q => by obtain ⟨q0, q1, qP, qK, qD⟩ := q; exact ⟨q0, q1, qP, va_K.moved (u := U) (U := U.calling g mk a) (Vm.Alike.refl U.vm) qK, qD⟩, va_recv hK hP (ci := 3) (q0 := 1) rfl rfl, fun U hU hW => ⟨rfl, by rw [hU], by rw [hU]; exact hPc, va_K.moved hW.alike hK, hDc.weaken (fun _ _ _ _ => trivial)⟩⟩ rfl rfl hl.1 rfl (lv_room (Nat.le_of_ble_eq_true rfl)) dX10_relationOf_26 ⟨Nat.le_of_ble_eq_true rfl, Nat.le_of_ble_eq_true rfl⟩) hS (fun q _ h => hFc q h) hFc (fun r_5 u t H1 locs ht hvm hw hB hz1 hk1 hS => ?_)
      obtain ⟨hP1, hK1, hD1⟩ := hB
      rw [ht] at hP1
      obtain ⟨hP, hD⟩ := va_join (wr := [(x0, .inr (10, [.ref xTape, .ref xReader, .ref xBag, .ref xBld, .ref xAng, .ref xSum, .ref xPik, .int 0, .ref xHan, .ref xIns, .ref xShr, .ref xSta, .ref xTur])), (xSum, .inr (8, [.ref sM, .ref sP, .ref sA, .int 0])), (hH, .inl (cI, 7, (.inl (upd (upd (fun _ => 0) (0 : Int32).toNatClampNeg 0) (0 : Int32).toNatClampNeg 2)))), (hT, .inl (cJ, 7, (.inr (.inl (vp_updL (vp_updL (fun _ => 0) (0 : Int32).toNatClampNeg 1) (0 : Int32).toNatClampNeg 1)))))]) (w1 := [(xHan, .inr (3, [.int 0, .int 2, .int 1, .ref hH, .ref hR, .ref hT, .ref hM])), (hM, .inl (cJ, 6, (.inr (.inl (vp_updL (fun _ => 0) (0 : Int32).toNatClampNeg 1)))))]) hP hD [1, 5] [0, 2, 3, 4] rfl rfl (by decide) (by decide) hk1 hFc hP1 hD1
      generalize H1 = H at hP hS ⊢
      have hP : va_P (dC, dI) vwCl [(x0, .inr (10, [.ref xTape, .ref xReader, .ref xBag, .ref xBld, .ref xAng, .ref xSum, .ref xPik, .int 0, .ref xHan, .ref xIns, .ref xShr, .ref xSta, .ref xTur])), (xSum, .inr (8, [.ref sM, .ref sP, .ref sA, .int 0])), (hH, .inl (cI, 7, (.inl (upd (upd (fun _ => 0) (0 : Int32).toNatClampNeg 0) (0 : Int32).toNatClampNeg 2)))), (hT, .inl (cJ, 7, (.inr (.inl (vp_updL (vp_updL (fun _ => 0) (0 : Int32).toNatClampNeg 1) (0 : Int32).toNatClampNeg 1))))), (xHan, .inr (3, [.int 0, .int 2, .int 1, .ref hH, .ref hR, .ref hT, .ref hM])), (hM, .inl (cJ, 6, (.inr (.inl (vp_updL (fun _ => 0) (0 : Int32).toNatClampNeg 1)))))] H := hP
      have hD : va_D A [(x0, .inr (10, [.ref xTape, .ref xReader, .ref xBag, .ref xBld, .ref xAng, .ref xSum, .ref xPik, .int 0, .ref xHan, .ref xIns, .ref xShr, .ref xSta, .ref xTur])), (xSum, .inr (8, [.ref sM, .ref sP, .ref sA, .int 0])), (hH, .inl (cI, 7, (.inl (upd (upd (fun _ => 0) (0 : Int32).toNatClampNeg 0) (0 : Int32).toNatClampNeg 2)))), (hT, .inl (cJ, 7, (.inr (.inl (vp_updL (vp_updL (fun _ => 0) (0 : Int32).toNatClampNeg 1) (0 : Int32).toNatClampNeg 1))))), (xHan, .inr (3, [.int 0, .int 2, .int 1, .ref hH, .ref hR, .ref hT, .ref hM])), (hM, .inl (cJ, 6, (.inr (.inl (vp_updL (fun _ => 0) (0 : Int32).toNatClampNeg 1)))))] := hD
      have hr_5 := hw
      obtain rfl : r_5 = 1 := hr_5
      refine lv_if_ne (tgt := 35) hx hb dX10_relationOf_29 (by decide) (fun _ => ?_) (fun c => absurd c (by decide))
      rcases nk_split4 p1 (by (try simp only [nk_lt, nk_le, nk_eq, nk_wd, nk_c0, nk_c1, nk_c2, nk_c3, nk_c4, nk_c5, nk_c6, nk_c15, nk_c16, nk_c24, nk_c47, nk_c48, nk_c600, nk_c1728, nk_m1, nk_l0, nk_l1, nk_l2, nk_l3, nk_l5, nk_l15, nk_l24, nk_l47] at k_4); omega) with rfl | rfl | rfl | rfl
      · refine lv_iload_n hx hb dX10_relationOf_35 rfl (lv_at hl 1 rfl) ?_
        refine lv_iload_n hx hb dX10_relationOf_36 rfl (lv_at hl 2 rfl) ?_
        refine lv_ishr hx hb dX10_relationOf_37 ?_
        refine lv_topi (fun x_6 ex_6 => ?_)
        obtain rfl : x_6 = 5 := ex_6.trans (by first | rfl | decide)
        refine lv_iconst (v := 1) hx hb dX10_relationOf_38 (by decide) ?_
        refine lv_iand hx hb dX10_relationOf_39 ?_
        refine lv_topi (fun x_7 ex_7 => ?_)
        obtain rfl : x_7 = 1 := ex_7.trans (by first | rfl | decide)
        refine lv_if_ne (tgt := 45) hx hb dX10_relationOf_40 (by decide) (fun _ => ?_) (fun c => absurd c (by decide))
        refine lv_aload_n hx hb dX10_relationOf_45 rfl (lv_at hl 0 rfl) ?_
        refine va_get (D := (dC, dI)) (ci := 10) (v := .ref xHan) (C := RX10) (T := TX10) (N := 13) hx hb hts hiX10 hown hK hP 0 rfl rfl 8 (by decide) (hts (.fieldLink RX10 61 "ScissorsTable" "hang" "LScissorsTable$Hang;") (by decide +kernel)) (fun _ h9 => h9) rfl dX10_relationOf_46 ?_
        refine lv_iload_n hx hb dX10_relationOf_49 rfl (lv_at hl 1 rfl) ?_
        refine lv_iconst (v := 1) hx hb dX10_relationOf_50 (by decide) ?_
        refine lv_iload_n hx hb dX10_relationOf_51 rfl (lv_at hl 2 rfl) ?_
        refine lv_ishl hx hb dX10_relationOf_52 ?_
        refine lv_topi (fun x_8 ex_8 => ?_)
        obtain rfl : x_8 = 1 := ex_8.trans (by first | rfl | decide)
        refine lv_iconst (v := 1) hx hb dX10_relationOf_53 (by decide) ?_
        refine lv_isub hx hb dX10_relationOf_54 ?_
        refine lv_topi (fun x_9 ex_9 => ?_)
        obtain rfl : x_9 = 0 := ex_9.trans (by first | rfl | decide)
        refine lv_iand hx hb dX10_relationOf_55 ?_
        refine lv_topi (fun x_10 ex_10 => ?_)
        obtain rfl : x_10 = 0 := ex_10.trans (by first | rfl | decide)
        have hPc := hP.sub (ws' := []) [] rfl
        have hDc := hD.sub (ws' := []) [] (by decide) rfl
        have hFc := va_free (wc := []) hD hS hA [] rfl
        refine va_calli (va_runS (As := [.int 0]) (rest := [.ref xHan]) ⟨hx, hb, hml, hown, hts⟩ (c_J6_bitCount_0f7a4_0 l dC dI cB cI cJ H.size ) (va_cwS 1 hts gX10_relationOf_J6_bitCount_0f7a4 rfl rfl rfl (by decide +kernel) ⟨Nat.le_of_ble_eq_true rfl, Nat.le_of_ble_eq_true rfl⟩) ⟨fun a U g mk q => by obtain ⟨q0, q1, qP, qK, qD⟩ := q; exact ⟨q0, q1, qP, va_K.moved (u := U) (U := U.calling g mk a) (Vm.Alike.refl U.vm) qK, qD⟩, fun U hU hW => ⟨rfl, by rw [hU], by rw [hU]; exact hPc, va_K.moved hW.alike hK, hDc.weaken (fun _ _ _ _ => trivial)⟩⟩ rfl rfl hl.1 rfl (lv_room (Nat.le_of_ble_eq_true rfl)) dX10_relationOf_56 ⟨Nat.le_of_ble_eq_true rfl, Nat.le_of_ble_eq_true rfl⟩) hS (fun q _ h => hFc q h) hFc (fun r_11 u t H1 locs ht hvm hw hB hz1 hk1 hS => ?_)
        have hP1 : va_P (dC, dI) vwCl [] H1 := fun k q h => by simp at h
        have hD1 : va_D (va_A [] H.size) [] := ⟨fun i j p q h => by simp at h, fun k q h => by simp at h⟩
        obtain ⟨hP, hD⟩ := va_join (wr := [(x0, .inr (10, [.ref xTape, .ref xReader, .ref xBag, .ref xBld, .ref xAng, .ref xSum, .ref xPik, .int 0, .ref xHan, .ref xIns, .ref xShr, .ref xSta, .ref xTur])), (xSum, .inr (8, [.ref sM, .ref sP, .ref sA, .int 0])), (hH, .inl (cI, 7, (.inl (upd (upd (fun _ => 0) (0 : Int32).toNatClampNeg 0) (0 : Int32).toNatClampNeg 2)))), (hT, .inl (cJ, 7, (.inr (.inl (vp_updL (vp_updL (fun _ => 0) (0 : Int32).toNatClampNeg 1) (0 : Int32).toNatClampNeg 1))))), (xHan, .inr (3, [.int 0, .int 2, .int 1, .ref hH, .ref hR, .ref hT, .ref hM])), (hM, .inl (cJ, 6, (.inr (.inl (vp_updL (fun _ => 0) (0 : Int32).toNatClampNeg 1)))))]) (w1 := []) hP hD [] [0, 1, 2, 3, 4, 5] rfl rfl (by decide) (by decide) hk1 hFc hP1 hD1
        generalize H1 = H at hP hS ⊢
        have hP : va_P (dC, dI) vwCl [(x0, .inr (10, [.ref xTape, .ref xReader, .ref xBag, .ref xBld, .ref xAng, .ref xSum, .ref xPik, .int 0, .ref xHan, .ref xIns, .ref xShr, .ref xSta, .ref xTur])), (xSum, .inr (8, [.ref sM, .ref sP, .ref sA, .int 0])), (hH, .inl (cI, 7, (.inl (upd (upd (fun _ => 0) (0 : Int32).toNatClampNeg 0) (0 : Int32).toNatClampNeg 2)))), (hT, .inl (cJ, 7, (.inr (.inl (vp_updL (vp_updL (fun _ => 0) (0 : Int32).toNatClampNeg 1) (0 : Int32).toNatClampNeg 1))))), (xHan, .inr (3, [.int 0, .int 2, .int 1, .ref hH, .ref hR, .ref hT, .ref hM])), (hM, .inl (cJ, 6, (.inr (.inl (vp_updL (fun _ => 0) (0 : Int32).toNatClampNeg 1)))))] H := hP
        have hD : va_D A [(x0, .inr (10, [.ref xTape, .ref xReader, .ref xBag, .ref xBld, .ref xAng, .ref xSum, .ref xPik, .int 0, .ref xHan, .ref xIns, .ref xShr, .ref xSta, .ref xTur])), (xSum, .inr (8, [.ref sM, .ref sP, .ref sA, .int 0])), (hH, .inl (cI, 7, (.inl (upd (upd (fun _ => 0) (0 : Int32).toNatClampNeg 0) (0 : Int32).toNatClampNeg 2)))), (hT, .inl (cJ, 7, (.inr (.inl (vp_updL (vp_updL (fun _ => 0) (0 : Int32).toNatClampNeg 1) (0 : Int32).toNatClampNeg 1))))), (xHan, .inr (3, [.int 0, .int 2, .int 1, .ref hH, .ref hR, .ref hT, .ref hM])), (hM, .inl (cJ, 6, (.inr (.inl (vp_updL (fun _ => 0) (0 : Int32).toNatClampNeg 1)))))] := hD
        have hr_11 := hw
        obtain rfl : r_11 = 0 := hr_11
        have hPc := hP.sub (ws' := [(xHan, .inr (3, [.int 0, .int 2, .int 1, .ref hH, .ref hR, .ref hT, .ref hM])), (hM, .inl (cJ, 6, (.inr (.inl (vp_updL (fun _ => 0) (0 : Int32).toNatClampNeg 1)))))]) [4, 5] rfl
        have hDc := hD.sub (ws' := [(xHan, .inr (3, [.int 0, .int 2, .int 1, .ref hH, .ref hR, .ref hT, .ref hM])), (hM, .inl (cJ, 6, (.inr (.inl (vp_updL (fun _ => 0) (0 : Int32).toNatClampNeg 1)))))]) [4, 5] (by decide) rfl
        have hFc := va_free (wc := [(xHan, .inr (3, [.int 0, .int 2, .int 1, .ref hH, .ref hR, .ref hT, .ref hM])), (hM, .inl (cJ, 6, (.inr (.inl (vp_updL (fun _ => 0) (0 : Int32).toNatClampNeg 1)))))]) hD hS hA [4, 5] rfl
        refine va_calli (va_runV (As := [.int 0]) (rest := []) ⟨hx, hb, hml, hown, hts⟩ (c_X3_timesOf_t2_0 l dC dI cB cI cJ H.size xHan hH hR hT hM) (cwV 1 hts gX10_relationOf_X3_timesOf rfl rfl rfl (by decide +kernel) ⟨Nat.le_of_ble_eq_true rfl, Nat.le_of_ble_eq_true rfl⟩) ⟨fun a U g mk q => by obtain ⟨q0, q1, qP, qK, qD⟩ := q; exact ⟨q0, q1, qP, va_K.moved (u := U) (U := U.calling g mk a) (Vm.Alike.refl U.vm) qK, qD⟩, va_recv hK hP (ci := 3) (q0 := 4) rfl rfl, fun U hU hW => ⟨rfl, by rw [hU], by rw [hU]; exact hPc, va_K.moved hW.alike hK, hDc.weaken (fun _ _ _ _ => trivial)⟩⟩ rfl rfl hl.1 rfl (lv_room (Nat.le_of_ble_eq_true rfl)) dX10_relationOf_59 ⟨Nat.le_of_ble_eq_true rfl, Nat.le_of_ble_eq_true rfl⟩) hS (fun q _ h => hFc q h) hFc (fun r_12 u t H1 locs ht hvm hw hB hz1 hk1 hS => ?_)
        have hP1 : va_P (dC, dI) vwCl [] H1 := fun k q h => by simp at h
        have hD1 : va_D (va_A [(xHan, .inr (3, [.int 0, .int 2, .int 1, .ref hH, .ref hR, .ref hT, .ref hM])), (hM, .inl (cJ, 6, (.inr (.inl (vp_updL (fun _ => 0) (0 : Int32).toNatClampNeg 1)))))] H.size) [] := ⟨fun i j p q h => by simp at h, fun k q h => by simp at h⟩
        obtain ⟨hP, hD⟩ := va_join (wr := [(x0, .inr (10, [.ref xTape, .ref xReader, .ref xBag, .ref xBld, .ref xAng, .ref xSum, .ref xPik, .int 0, .ref xHan, .ref xIns, .ref xShr, .ref xSta, .ref xTur])), (xSum, .inr (8, [.ref sM, .ref sP, .ref sA, .int 0])), (hH, .inl (cI, 7, (.inl (upd (upd (fun _ => 0) (0 : Int32).toNatClampNeg 0) (0 : Int32).toNatClampNeg 2)))), (hT, .inl (cJ, 7, (.inr (.inl (vp_updL (vp_updL (fun _ => 0) (0 : Int32).toNatClampNeg 1) (0 : Int32).toNatClampNeg 1)))))]) (w1 := []) hP hD [4, 5] [0, 1, 2, 3] rfl rfl (by decide) (by decide) hk1 hFc hP1 hD1
        generalize H1 = H at hP hS ⊢
        have hP : va_P (dC, dI) vwCl [(x0, .inr (10, [.ref xTape, .ref xReader, .ref xBag, .ref xBld, .ref xAng, .ref xSum, .ref xPik, .int 0, .ref xHan, .ref xIns, .ref xShr, .ref xSta, .ref xTur])), (xSum, .inr (8, [.ref sM, .ref sP, .ref sA, .int 0])), (hH, .inl (cI, 7, (.inl (upd (upd (fun _ => 0) (0 : Int32).toNatClampNeg 0) (0 : Int32).toNatClampNeg 2)))), (hT, .inl (cJ, 7, (.inr (.inl (vp_updL (vp_updL (fun _ => 0) (0 : Int32).toNatClampNeg 1) (0 : Int32).toNatClampNeg 1)))))] H := hP
        have hD : va_D A [(x0, .inr (10, [.ref xTape, .ref xReader, .ref xBag, .ref xBld, .ref xAng, .ref xSum, .ref xPik, .int 0, .ref xHan, .ref xIns, .ref xShr, .ref xSta, .ref xTur])), (xSum, .inr (8, [.ref sM, .ref sP, .ref sA, .int 0])), (hH, .inl (cI, 7, (.inl (upd (upd (fun _ => 0) (0 : Int32).toNatClampNeg 0) (0 : Int32).toNatClampNeg 2)))), (hT, .inl (cJ, 7, (.inr (.inl (vp_updL (vp_updL (fun _ => 0) (0 : Int32).toNatClampNeg 1) (0 : Int32).toNatClampNeg 1)))))] := hD
        have hr_12 := hw
        obtain rfl : r_12 = 1 := hr_12
        refine W.widen (k := 0) (n := 0) (Nat.le_of_ble_eq_true rfl) (Nat.le_of_ble_eq_true rfl) ?_
        exact W.iret (v := 1) hx hb hr (fun t ht hW => ⟨⟨1, (), rfl, (by decide), trivial⟩, hS.F ht⟩) hS.2.2 dX10_relationOf_62
      · refine lv_iload_n hx hb dX10_relationOf_35 rfl (lv_at hl 1 rfl) ?_
        refine lv_iload_n hx hb dX10_relationOf_36 rfl (lv_at hl 2 rfl) ?_
        refine lv_ishr hx hb dX10_relationOf_37 ?_
        refine lv_topi (fun x_13 ex_13 => ?_)
        obtain rfl : x_13 = 2 := ex_13.trans (by first | rfl | decide)
        refine lv_iconst (v := 1) hx hb dX10_relationOf_38 (by decide) ?_
        refine lv_iand hx hb dX10_relationOf_39 ?_
        refine lv_topi (fun x_14 ex_14 => ?_)
        obtain rfl : x_14 = 0 := ex_14.trans (by first | rfl | decide)
        refine lv_if_ne (tgt := 45) hx hb dX10_relationOf_40 (by decide) (fun c => absurd (by decide) c) (fun _ => ?_)
        refine lv_iconst (v := 0) hx hb dX10_relationOf_43 (by decide) ?_
        refine W.widen (k := 0) (n := 0) (Nat.le_of_ble_eq_true rfl) (Nat.le_of_ble_eq_true rfl) ?_
        exact W.iret (v := 0) hx hb hr (fun t ht hW => ⟨⟨0, (), rfl, (by decide), trivial⟩, hS.F ht⟩) hS.2.2 dX10_relationOf_44
      · refine lv_iload_n hx hb dX10_relationOf_35 rfl (lv_at hl 1 rfl) ?_
        refine lv_iload_n hx hb dX10_relationOf_36 rfl (lv_at hl 2 rfl) ?_
        refine lv_ishr hx hb dX10_relationOf_37 ?_
        refine lv_topi (fun x_15 ex_15 => ?_)
        obtain rfl : x_15 = 1 := ex_15.trans (by first | rfl | decide)
        refine lv_iconst (v := 1) hx hb dX10_relationOf_38 (by decide) ?_
        refine lv_iand hx hb dX10_relationOf_39 ?_
        refine lv_topi (fun x_16 ex_16 => ?_)
        obtain rfl : x_16 = 1 := ex_16.trans (by first | rfl | decide)
        refine lv_if_ne (tgt := 45) hx hb dX10_relationOf_40 (by decide) (fun _ => ?_) (fun c => absurd c (by decide))
        refine lv_aload_n hx hb dX10_relationOf_45 rfl (lv_at hl 0 rfl) ?_
        refine va_get (D := (dC, dI)) (ci := 10) (v := .ref xHan) (C := RX10) (T := TX10) (N := 13) hx hb hts hiX10 hown hK hP 0 rfl rfl 8 (by decide) (hts (.fieldLink RX10 61 "ScissorsTable" "hang" "LScissorsTable$Hang;") (by decide +kernel)) (fun _ h9 => h9) rfl dX10_relationOf_46 ?_
        refine lv_iload_n hx hb dX10_relationOf_49 rfl (lv_at hl 1 rfl) ?_
        refine lv_iconst (v := 1) hx hb dX10_relationOf_50 (by decide) ?_
        refine lv_iload_n hx hb dX10_relationOf_51 rfl (lv_at hl 2 rfl) ?_
        refine lv_ishl hx hb dX10_relationOf_52 ?_
        refine lv_topi (fun x_17 ex_17 => ?_)
        obtain rfl : x_17 = 4 := ex_17.trans (by first | rfl | decide)
        refine lv_iconst (v := 1) hx hb dX10_relationOf_53 (by decide) ?_
        refine lv_isub hx hb dX10_relationOf_54 ?_
        refine lv_topi (fun x_18 ex_18 => ?_)
        obtain rfl : x_18 = 3 := ex_18.trans (by first | rfl | decide)
        refine lv_iand hx hb dX10_relationOf_55 ?_
        refine lv_topi (fun x_19 ex_19 => ?_)
        obtain rfl : x_19 = 1 := ex_19.trans (by first | rfl | decide)
        have hPc := hP.sub (ws' := []) [] rfl
        have hDc := hD.sub (ws' := []) [] (by decide) rfl
        have hFc := va_free (wc := []) hD hS hA [] rfl
        refine va_calli (va_runS (As := [.int 1]) (rest := [.ref xHan]) ⟨hx, hb, hml, hown, hts⟩ (c_J6_bitCount_0f7a4_1 l dC dI cB cI cJ H.size ) (va_cwS 1 hts gX10_relationOf_J6_bitCount_0f7a4 rfl rfl rfl (by decide +kernel) ⟨Nat.le_of_ble_eq_true rfl, Nat.le_of_ble_eq_true rfl⟩) ⟨fun a U g mk q => by obtain ⟨q0, q1, qP, qK, qD⟩ := q; exact ⟨q0, q1, qP, va_K.moved (u := U) (U := U.calling g mk a) (Vm.Alike.refl U.vm) qK, qD⟩, fun U hU hW => ⟨rfl, by rw [hU], by rw [hU]; exact hPc, va_K.moved hW.alike hK, hDc.weaken (fun _ _ _ _ => trivial)⟩⟩ rfl rfl hl.1 rfl (lv_room (Nat.le_of_ble_eq_true rfl)) dX10_relationOf_56 ⟨Nat.le_of_ble_eq_true rfl, Nat.le_of_ble_eq_true rfl⟩) hS (fun q _ h => hFc q h) hFc (fun r_20 u t H1 locs ht hvm hw hB hz1 hk1 hS => ?_)
        have hP1 : va_P (dC, dI) vwCl [] H1 := fun k q h => by simp at h
        have hD1 : va_D (va_A [] H.size) [] := ⟨fun i j p q h => by simp at h, fun k q h => by simp at h⟩
        obtain ⟨hP, hD⟩ := va_join (wr := [(x0, .inr (10, [.ref xTape, .ref xReader, .ref xBag, .ref xBld, .ref xAng, .ref xSum, .ref xPik, .int 0, .ref xHan, .ref xIns, .ref xShr, .ref xSta, .ref xTur])), (xSum, .inr (8, [.ref sM, .ref sP, .ref sA, .int 0])), (hH, .inl (cI, 7, (.inl (upd (upd (fun _ => 0) (0 : Int32).toNatClampNeg 0) (0 : Int32).toNatClampNeg 2)))), (hT, .inl (cJ, 7, (.inr (.inl (vp_updL (vp_updL (fun _ => 0) (0 : Int32).toNatClampNeg 1) (0 : Int32).toNatClampNeg 1))))), (xHan, .inr (3, [.int 0, .int 2, .int 1, .ref hH, .ref hR, .ref hT, .ref hM])), (hM, .inl (cJ, 6, (.inr (.inl (vp_updL (fun _ => 0) (0 : Int32).toNatClampNeg 1)))))]) (w1 := []) hP hD [] [0, 1, 2, 3, 4, 5] rfl rfl (by decide) (by decide) hk1 hFc hP1 hD1
        generalize H1 = H at hP hS ⊢
        have hP : va_P (dC, dI) vwCl [(x0, .inr (10, [.ref xTape, .ref xReader, .ref xBag, .ref xBld, .ref xAng, .ref xSum, .ref xPik, .int 0, .ref xHan, .ref xIns, .ref xShr, .ref xSta, .ref xTur])), (xSum, .inr (8, [.ref sM, .ref sP, .ref sA, .int 0])), (hH, .inl (cI, 7, (.inl (upd (upd (fun _ => 0) (0 : Int32).toNatClampNeg 0) (0 : Int32).toNatClampNeg 2)))), (hT, .inl (cJ, 7, (.inr (.inl (vp_updL (vp_updL (fun _ => 0) (0 : Int32).toNatClampNeg 1) (0 : Int32).toNatClampNeg 1))))), (xHan, .inr (3, [.int 0, .int 2, .int 1, .ref hH, .ref hR, .ref hT, .ref hM])), (hM, .inl (cJ, 6, (.inr (.inl (vp_updL (fun _ => 0) (0 : Int32).toNatClampNeg 1)))))] H := hP
        have hD : va_D A [(x0, .inr (10, [.ref xTape, .ref xReader, .ref xBag, .ref xBld, .ref xAng, .ref xSum, .ref xPik, .int 0, .ref xHan, .ref xIns, .ref xShr, .ref xSta, .ref xTur])), (xSum, .inr (8, [.ref sM, .ref sP, .ref sA, .int 0])), (hH, .inl (cI, 7, (.inl (upd (upd (fun _ => 0) (0 : Int32).toNatClampNeg 0) (0 : Int32).toNatClampNeg 2)))), (hT, .inl (cJ, 7, (.inr (.inl (vp_updL (vp_updL (fun _ => 0) (0 : Int32).toNatClampNeg 1) (0 : Int32).toNatClampNeg 1))))), (xHan, .inr (3, [.int 0, .int 2, .int 1, .ref hH, .ref hR, .ref hT, .ref hM])), (hM, .inl (cJ, 6, (.inr (.inl (vp_updL (fun _ => 0) (0 : Int32).toNatClampNeg 1)))))] := hD
        have hr_20 := hw
        obtain rfl : r_20 = 1 := hr_20
        have hPc := hP.sub (ws' := [(xHan, .inr (3, [.int 0, .int 2, .int 1, .ref hH, .ref hR, .ref hT, .ref hM])), (hM, .inl (cJ, 6, (.inr (.inl (vp_updL (fun _ => 0) (0 : Int32).toNatClampNeg 1)))))]) [4, 5] rfl
        have hDc := hD.sub (ws' := [(xHan, .inr (3, [.int 0, .int 2, .int 1, .ref hH, .ref hR, .ref hT, .ref hM])), (hM, .inl (cJ, 6, (.inr (.inl (vp_updL (fun _ => 0) (0 : Int32).toNatClampNeg 1)))))]) [4, 5] (by decide) rfl
        have hFc := va_free (wc := [(xHan, .inr (3, [.int 0, .int 2, .int 1, .ref hH, .ref hR, .ref hT, .ref hM])), (hM, .inl (cJ, 6, (.inr (.inl (vp_updL (fun _ => 0) (0 : Int32).toNatClampNeg 1)))))]) hD hS hA [4, 5] rfl
        refine va_calli (va_runV (As := [.int 1]) (rest := []) ⟨hx, hb, hml, hown, hts⟩ (c_X3_timesOf_t2_1 l dC dI cB cI cJ H.size xHan hH hR hT hM) (cwV 1 hts gX10_relationOf_X3_timesOf rfl rfl rfl (by decide +kernel) ⟨Nat.le_of_ble_eq_true rfl, Nat.le_of_ble_eq_true rfl⟩) ⟨fun a U g mk q => by obtain ⟨q0, q1, qP, qK, qD⟩ := q; exact ⟨q0, q1, qP, va_K.moved (u := U) (U := U.calling g mk a) (Vm.Alike.refl U.vm) qK, qD⟩, va_recv hK hP (ci := 3) (q0 := 4) rfl rfl, fun U hU hW => ⟨rfl, by rw [hU], by rw [hU]; exact hPc, va_K.moved hW.alike hK, hDc.weaken (fun _ _ _ _ => trivial)⟩⟩ rfl rfl hl.1 rfl (lv_room (Nat.le_of_ble_eq_true rfl)) dX10_relationOf_59 ⟨Nat.le_of_ble_eq_true rfl, Nat.le_of_ble_eq_true rfl⟩) hS (fun q _ h => hFc q h) hFc (fun r_21 u t H1 locs ht hvm hw hB hz1 hk1 hS => ?_)
        have hP1 : va_P (dC, dI) vwCl [] H1 := fun k q h => by simp at h
        have hD1 : va_D (va_A [(xHan, .inr (3, [.int 0, .int 2, .int 1, .ref hH, .ref hR, .ref hT, .ref hM])), (hM, .inl (cJ, 6, (.inr (.inl (vp_updL (fun _ => 0) (0 : Int32).toNatClampNeg 1)))))] H.size) [] := ⟨fun i j p q h => by simp at h, fun k q h => by simp at h⟩
        obtain ⟨hP, hD⟩ := va_join (wr := [(x0, .inr (10, [.ref xTape, .ref xReader, .ref xBag, .ref xBld, .ref xAng, .ref xSum, .ref xPik, .int 0, .ref xHan, .ref xIns, .ref xShr, .ref xSta, .ref xTur])), (xSum, .inr (8, [.ref sM, .ref sP, .ref sA, .int 0])), (hH, .inl (cI, 7, (.inl (upd (upd (fun _ => 0) (0 : Int32).toNatClampNeg 0) (0 : Int32).toNatClampNeg 2)))), (hT, .inl (cJ, 7, (.inr (.inl (vp_updL (vp_updL (fun _ => 0) (0 : Int32).toNatClampNeg 1) (0 : Int32).toNatClampNeg 1)))))]) (w1 := []) hP hD [4, 5] [0, 1, 2, 3] rfl rfl (by decide) (by decide) hk1 hFc hP1 hD1
        generalize H1 = H at hP hS ⊢
        have hP : va_P (dC, dI) vwCl [(x0, .inr (10, [.ref xTape, .ref xReader, .ref xBag, .ref xBld, .ref xAng, .ref xSum, .ref xPik, .int 0, .ref xHan, .ref xIns, .ref xShr, .ref xSta, .ref xTur])), (xSum, .inr (8, [.ref sM, .ref sP, .ref sA, .int 0])), (hH, .inl (cI, 7, (.inl (upd (upd (fun _ => 0) (0 : Int32).toNatClampNeg 0) (0 : Int32).toNatClampNeg 2)))), (hT, .inl (cJ, 7, (.inr (.inl (vp_updL (vp_updL (fun _ => 0) (0 : Int32).toNatClampNeg 1) (0 : Int32).toNatClampNeg 1)))))] H := hP
        have hD : va_D A [(x0, .inr (10, [.ref xTape, .ref xReader, .ref xBag, .ref xBld, .ref xAng, .ref xSum, .ref xPik, .int 0, .ref xHan, .ref xIns, .ref xShr, .ref xSta, .ref xTur])), (xSum, .inr (8, [.ref sM, .ref sP, .ref sA, .int 0])), (hH, .inl (cI, 7, (.inl (upd (upd (fun _ => 0) (0 : Int32).toNatClampNeg 0) (0 : Int32).toNatClampNeg 2)))), (hT, .inl (cJ, 7, (.inr (.inl (vp_updL (vp_updL (fun _ => 0) (0 : Int32).toNatClampNeg 1) (0 : Int32).toNatClampNeg 1)))))] := hD
        have hr_21 := hw
        obtain rfl : r_21 = 0 := hr_21
        refine W.widen (k := 0) (n := 0) (Nat.le_of_ble_eq_true rfl) (Nat.le_of_ble_eq_true rfl) ?_
        exact W.iret (v := 0) hx hb hr (fun t ht hW => ⟨⟨0, (), rfl, (by decide), trivial⟩, hS.F ht⟩) hS.2.2 dX10_relationOf_62
      · refine lv_iload_n hx hb dX10_relationOf_35 rfl (lv_at hl 1 rfl) ?_
        refine lv_iload_n hx hb dX10_relationOf_36 rfl (lv_at hl 2 rfl) ?_
        refine lv_ishr hx hb dX10_relationOf_37 ?_
        refine lv_topi (fun x_22 ex_22 => ?_)
        obtain rfl : x_22 = 0 := ex_22.trans (by first | rfl | decide)
        refine lv_iconst (v := 1) hx hb dX10_relationOf_38 (by decide) ?_
        refine lv_iand hx hb dX10_relationOf_39 ?_
        refine lv_topi (fun x_23 ex_23 => ?_)
        obtain rfl : x_23 = 0 := ex_23.trans (by first | rfl | decide)
        refine lv_if_ne (tgt := 45) hx hb dX10_relationOf_40 (by decide) (fun c => absurd (by decide) c) (fun _ => ?_)
        refine lv_iconst (v := 0) hx hb dX10_relationOf_43 (by decide) ?_
        refine W.widen (k := 0) (n := 0) (Nat.le_of_ble_eq_true rfl) (Nat.le_of_ble_eq_true rfl) ?_
        exact W.iret (v := 0) hx hb hr (fun t ht hW => ⟨⟨0, (), rfl, (by decide), trivial⟩, hS.F ht⟩) hS.2.2 dX10_relationOf_44
set_option maxHeartbeats 4000000 in
set_option maxRecDepth 100000 in
theorem c_X10_relationOf_6 (l : Launch) (dC : Nat → ClassId) (dI : Nat → Nat → Nat) (cB cI cJ : ClassId) (sz : Nat) (x0 xTape xReader xBag xBld xAng xSum xPik xHan xIns xShr xSta xTur sM sP sA hH hR hT hM : Nat) (p1 : Int32) : Met l yX10_relationOf wsX10_relationOf ({ frames := 12, cells := 0, slots := 0, locals := 400 }) (va_Pc [.ref x0, .int 6, .int p1] (fun U => U.heap.size = sz ∧ va_P (dC, dI) vwCl [(x0, .inr (10, [.ref xTape, .ref xReader, .ref xBag, .ref xBld, .ref xAng, .ref xSum, .ref xPik, .int 0, .ref xHan, .ref xIns, .ref xShr, .ref xSta, .ref xTur])), (xSum, .inr (8, [.ref sM, .ref sP, .ref sA, .int 0])), (xHan, .inr (3, [.int 0, .int 0, .int 0, .ref hH, .ref hR, .ref hT, .ref hM])), (hH, .inl (cI, 7, (.inl (fun _ => 0)))), (hT, .inl (cJ, 7, (.inr (.inl (fun _ => 0))))), (hM, .inl (cJ, 6, (.inr (.inl (fun _ => 0)))))] U.heap ∧ va_K (dC, dI) vwCl [(cB, .byte), (cI, .int), (cJ, .long)] U ∧ va_D (fun _ => True) [(x0, .inr (10, [.ref xTape, .ref xReader, .ref xBag, .ref xBld, .ref xAng, .ref xSum, .ref xPik, .int 0, .ref xHan, .ref xIns, .ref xShr, .ref xSta, .ref xTur])), (xSum, .inr (8, [.ref sM, .ref sP, .ref sA, .int 0])), (xHan, .inr (3, [.int 0, .int 0, .int 0, .ref hH, .ref hR, .ref hT, .ref hM])), (hH, .inl (cI, 7, (.inl (fun _ => 0)))), (hT, .inl (cJ, 7, (.inr (.inl (fun _ => 0))))), (hM, .inl (cJ, 6, (.inr (.inl (fun _ => 0)))))] ∧ va_Nw (.methodLinkNest RX3 62 yX10_gcd "ScissorsTable") U)) (va_Qi (fun (r : Int32) (_ : Unit) => r = sp_rel 6 p1) (fun _ _ => True) (va_A [(x0, .inr (10, [.ref xTape, .ref xReader, .ref xBag, .ref xBld, .ref xAng, .ref xSum, .ref xPik, .int 0, .ref xHan, .ref xIns, .ref xShr, .ref xSta, .ref xTur])), (xSum, .inr (8, [.ref sM, .ref sP, .ref sA, .int 0])), (xHan, .inr (3, [.int 0, .int 0, .int 0, .ref hH, .ref hR, .ref hT, .ref hM])), (hH, .inl (cI, 7, (.inl (fun _ => 0)))), (hT, .inl (cJ, 7, (.inr (.inl (fun _ => 0))))), (hM, .inl (cJ, 6, (.inr (.inl (fun _ => 0)))))] sz)) 0 0 (va_A [(x0, .inr (10, [.ref xTape, .ref xReader, .ref xBag, .ref xBld, .ref xAng, .ref xSum, .ref xPik, .int 0, .ref xHan, .ref xIns, .ref xShr, .ref xSta, .ref xTur])), (xSum, .inr (8, [.ref sM, .ref sP, .ref sA, .int 0])), (xHan, .inr (3, [.int 0, .int 0, .int 0, .ref hH, .ref hR, .ref hT, .ref hM])), (hH, .inl (cI, 7, (.inl (fun _ => 0)))), (hT, .inl (cJ, 7, (.inr (.inl (fun _ => 0))))), (hM, .inl (cJ, 6, (.inr (.inl (fun _ => 0)))))] sz) := by
  refine Met.ofW (cc := cX10_relationOf) (maxL := 3) (ret := (some .int)) (by decide) rfl ?_
  intro p e s m args below meth c s₁ B hml hv
  obtain ⟨rfl, hsz, hP, hK, hD0, hN0⟩ := hv
  have hx := B.exec
  have hb := B.bytes
  have hr := B.returns
  have hts := atoms_spec (ws := wsX10_relationOf) B.pre
  have hown : s.vm.findClass RX10 = some m.cls := findClass_of_methodNamed B.named
  have hlocks := B.notSynchronized
  have hiX10 : ∀ w ∈ u_ws RX10 TX10 13, w ∈ wsX10_relationOf := by decide +kernel
  subst hsz
  have hD := hD0.self (sz := s.heap.size)
  generalize hAe : va_A [(x0, .inr (10, [.ref xTape, .ref xReader, .ref xBag, .ref xBld, .ref xAng, .ref xSum, .ref xPik, .int 0, .ref xHan, .ref xIns, .ref xShr, .ref xSta, .ref xTur])), (xSum, .inr (8, [.ref sM, .ref sP, .ref sA, .int 0])), (xHan, .inr (3, [.int 0, .int 0, .int 0, .ref hH, .ref hR, .ref hT, .ref hM])), (hH, .inl (cI, 7, (.inl (fun _ => 0)))), (hT, .inl (cJ, 7, (.inr (.inl (fun _ => 0))))), (hM, .inl (cJ, 6, (.inr (.inl (fun _ => 0)))))] s.heap.size = A at hD ⊢
  have hA : ∀ q : Nat, s.heap.size ≤ q → A q := fun q h => by rw [← hAe]; exact Or.inr h
  have hS : va_S A s.heap s.heap [] := va_S.rf
  have hP : va_P (dC, dI) vwCl [(x0, .inr (10, [.ref xTape, .ref xReader, .ref xBag, .ref xBld, .ref xAng, .ref xSum, .ref xPik, .int 0, .ref xHan, .ref xIns, .ref xShr, .ref xSta, .ref xTur])), (xSum, .inr (8, [.ref sM, .ref sP, .ref sA, .int 0])), (xHan, .inr (3, [.int 0, .int 0, .int 0, .ref hH, .ref hR, .ref hT, .ref hM])), (hH, .inl (cI, 7, (.inl (fun _ => 0)))), (hT, .inl (cJ, 7, (.inr (.inl (fun _ => 0))))), (hM, .inl (cJ, 6, (.inr (.inl (fun _ => 0)))))] s.heap := hP
  have hl := lv_entry ([.ref x0, .int 6, .int p1]) (n := 3) (Nat.le_of_ble_eq_true rfl)
  rw [lg_entry_eq]
  generalize (lg_sl ([.ref x0, .int 6, .int p1]) ++ List.replicate (3 - (lg_sl ([.ref x0, .int 6, .int p1])).length) Slot.unset).toArray = ls at hl ⊢
  have hl : lv_has ls 3 [(0, .ref x0), (1, .int 6), (2, .int p1)] := hl
  refine lv_iload_n hx hb dX10_relationOf_0 rfl (lv_at hl 1 rfl) ?_
  have hPc := hP.sub (ws' := []) [] rfl
  have hDc := hD.sub (ws' := []) [] (by decide) rfl
  have hFc := va_free (wc := []) hD hS hA [] rfl
  refine va_calli (va_runS (As := [.int 6]) (rest := []) ⟨hx, hb, hml, hown, hts⟩ (c_X10_isSetOfSolids l dC dI cB cI cJ s.heap.size 6) (va_cwS 1 hts gX10_relationOf_X10_isSetOfSolids rfl rfl rfl (by decide +kernel) ⟨Nat.le_of_ble_eq_true rfl, Nat.le_of_ble_eq_true rfl⟩) ⟨fun a U g mk q => by obtain ⟨q0, q1, qP, qK, qD⟩ := q; exact ⟨q0, q1, qP, va_K.moved (u := U) (U := U.calling g mk a) (Vm.Alike.refl U.vm) qK, qD⟩, fun U hU hW => ⟨rfl, by rw [hU], by rw [hU]; exact hPc, va_K.moved hW.alike hK, hDc.weaken (fun _ _ _ _ => trivial)⟩⟩ rfl rfl hl.1 rfl (lv_room (Nat.le_of_ble_eq_true rfl)) dX10_relationOf_1 ⟨Nat.le_of_ble_eq_true rfl, Nat.le_of_ble_eq_true rfl⟩) hS (fun q _ h => hFc q h) hFc (fun r_1 u t H1 locs ht hvm hw hB hz1 hk1 hS => ?_)
  have hP1 : va_P (dC, dI) vwCl [] H1 := fun k q h => by simp at h
  have hD1 : va_D (va_A [] s.heap.size) [] := ⟨fun i j p q h => by simp at h, fun k q h => by simp at h⟩
  obtain ⟨hP, hD⟩ := va_join (wr := [(x0, .inr (10, [.ref xTape, .ref xReader, .ref xBag, .ref xBld, .ref xAng, .ref xSum, .ref xPik, .int 0, .ref xHan, .ref xIns, .ref xShr, .ref xSta, .ref xTur])), (xSum, .inr (8, [.ref sM, .ref sP, .ref sA, .int 0])), (xHan, .inr (3, [.int 0, .int 0, .int 0, .ref hH, .ref hR, .ref hT, .ref hM])), (hH, .inl (cI, 7, (.inl (fun _ => 0)))), (hT, .inl (cJ, 7, (.inr (.inl (fun _ => 0))))), (hM, .inl (cJ, 6, (.inr (.inl (fun _ => 0)))))]) (w1 := []) hP hD [] [0, 1, 2, 3, 4, 5] rfl rfl (by decide) (by decide) hk1 hFc hP1 hD1
  generalize H1 = H at hP hS ⊢
  have hP : va_P (dC, dI) vwCl [(x0, .inr (10, [.ref xTape, .ref xReader, .ref xBag, .ref xBld, .ref xAng, .ref xSum, .ref xPik, .int 0, .ref xHan, .ref xIns, .ref xShr, .ref xSta, .ref xTur])), (xSum, .inr (8, [.ref sM, .ref sP, .ref sA, .int 0])), (xHan, .inr (3, [.int 0, .int 0, .int 0, .ref hH, .ref hR, .ref hT, .ref hM])), (hH, .inl (cI, 7, (.inl (fun _ => 0)))), (hT, .inl (cJ, 7, (.inr (.inl (fun _ => 0))))), (hM, .inl (cJ, 6, (.inr (.inl (fun _ => 0)))))] H := hP
  have hD : va_D A [(x0, .inr (10, [.ref xTape, .ref xReader, .ref xBag, .ref xBld, .ref xAng, .ref xSum, .ref xPik, .int 0, .ref xHan, .ref xIns, .ref xShr, .ref xSta, .ref xTur])), (xSum, .inr (8, [.ref sM, .ref sP, .ref sA, .int 0])), (xHan, .inr (3, [.int 0, .int 0, .int 0, .ref hH, .ref hR, .ref hT, .ref hM])), (hH, .inl (cI, 7, (.inl (fun _ => 0)))), (hT, .inl (cJ, 7, (.inr (.inl (fun _ => 0))))), (hM, .inl (cJ, 6, (.inr (.inl (fun _ => 0)))))] := hD
  rcases hw with ⟨rfl, k_2⟩ | ⟨rfl, k_2⟩
  · refine lv_if_eq (tgt := 14) hx hb dX10_relationOf_4 (by decide) (fun _ => ?_) (fun c => absurd (by decide) c)
    refine lv_ldc (v := (-1000000)) hx hb hown (hts (.constant RX10 140 (-1000000)) (by decide +kernel)) dX10_relationOf_14 ?_
    refine W.widen (k := 0) (n := 0) (Nat.le_of_ble_eq_true rfl) (Nat.le_of_ble_eq_true rfl) ?_
    exact W.iret (v := (-1000000)) hx hb hr (fun t ht hW => ⟨⟨(-1000000), (), rfl, (absurd (by decide) k_2), trivial⟩, hS.F ht⟩) hS.2.2 dX10_relationOf_16
  · refine lv_if_eq (tgt := 14) hx hb dX10_relationOf_4 (by decide) (fun c => absurd c (by decide)) (fun _ => ?_)
    refine lv_iload_n hx hb dX10_relationOf_7 rfl (lv_at hl 2 rfl) ?_
    have hPc := hP.sub (ws' := []) [] rfl
    have hDc := hD.sub (ws' := []) [] (by decide) rfl
    have hFc := va_free (wc := []) hD hS hA [] rfl
    refine va_calli (va_runS (As := [.int p1]) (rest := []) ⟨hx, hb, hml, hown, hts⟩ (c_X10_isSolid l dC dI cB cI cJ H.size p1) (va_cwS 1 hts gX10_relationOf_X10_isSolid rfl rfl rfl (by decide +kernel) ⟨Nat.le_of_ble_eq_true rfl, Nat.le_of_ble_eq_true rfl⟩) ⟨fun a U g mk q => by obtain ⟨q0, q1, qP, qK, qD⟩ := q; exact ⟨q0, q1, qP, va_K.moved (u := U) (U := U.calling g mk a) (Vm.Alike.refl U.vm) qK, qD⟩, fun U hU hW => ⟨rfl, by rw [hU], by rw [hU]; exact hPc, va_K.moved hW.alike hK, hDc.weaken (fun _ _ _ _ => trivial)⟩⟩ rfl rfl hl.1 rfl (lv_room (Nat.le_of_ble_eq_true rfl)) dX10_relationOf_8 ⟨Nat.le_of_ble_eq_true rfl, Nat.le_of_ble_eq_true rfl⟩) hS (fun q _ h => hFc q h) hFc (fun r_3 u t H1 locs ht hvm hw hB hz1 hk1 hS => ?_)
    have hP1 : va_P (dC, dI) vwCl [] H1 := fun k q h => by simp at h
    have hD1 : va_D (va_A [] H.size) [] := ⟨fun i j p q h => by simp at h, fun k q h => by simp at h⟩
    obtain ⟨hP, hD⟩ := va_join (wr := [(x0, .inr (10, [.ref xTape, .ref xReader, .ref xBag, .ref xBld, .ref xAng, .ref xSum, .ref xPik, .int 0, .ref xHan, .ref xIns, .ref xShr, .ref xSta, .ref xTur])), (xSum, .inr (8, [.ref sM, .ref sP, .ref sA, .int 0])), (xHan, .inr (3, [.int 0, .int 0, .int 0, .ref hH, .ref hR, .ref hT, .ref hM])), (hH, .inl (cI, 7, (.inl (fun _ => 0)))), (hT, .inl (cJ, 7, (.inr (.inl (fun _ => 0))))), (hM, .inl (cJ, 6, (.inr (.inl (fun _ => 0)))))]) (w1 := []) hP hD [] [0, 1, 2, 3, 4, 5] rfl rfl (by decide) (by decide) hk1 hFc hP1 hD1
    generalize H1 = H at hP hS ⊢
    have hP : va_P (dC, dI) vwCl [(x0, .inr (10, [.ref xTape, .ref xReader, .ref xBag, .ref xBld, .ref xAng, .ref xSum, .ref xPik, .int 0, .ref xHan, .ref xIns, .ref xShr, .ref xSta, .ref xTur])), (xSum, .inr (8, [.ref sM, .ref sP, .ref sA, .int 0])), (xHan, .inr (3, [.int 0, .int 0, .int 0, .ref hH, .ref hR, .ref hT, .ref hM])), (hH, .inl (cI, 7, (.inl (fun _ => 0)))), (hT, .inl (cJ, 7, (.inr (.inl (fun _ => 0))))), (hM, .inl (cJ, 6, (.inr (.inl (fun _ => 0)))))] H := hP
    have hD : va_D A [(x0, .inr (10, [.ref xTape, .ref xReader, .ref xBag, .ref xBld, .ref xAng, .ref xSum, .ref xPik, .int 0, .ref xHan, .ref xIns, .ref xShr, .ref xSta, .ref xTur])), (xSum, .inr (8, [.ref sM, .ref sP, .ref sA, .int 0])), (xHan, .inr (3, [.int 0, .int 0, .int 0, .ref hH, .ref hR, .ref hT, .ref hM])), (hH, .inl (cI, 7, (.inl (fun _ => 0)))), (hT, .inl (cJ, 7, (.inr (.inl (fun _ => 0))))), (hM, .inl (cJ, 6, (.inr (.inl (fun _ => 0)))))] := hD
    rcases hw with ⟨rfl, k_4⟩ | ⟨rfl, k_4⟩
    · refine lv_if_ne (tgt := 17) hx hb dX10_relationOf_11 (by decide) (fun c => absurd (by decide) c) (fun _ => ?_)
      refine lv_ldc (v := (-1000000)) hx hb hown (hts (.constant RX10 140 (-1000000)) (by decide +kernel)) dX10_relationOf_14 ?_
      refine W.widen (k := 0) (n := 0) (Nat.le_of_ble_eq_true rfl) (Nat.le_of_ble_eq_true rfl) ?_
      exact W.iret (v := (-1000000)) hx hb hr (fun t ht hW => ⟨⟨(-1000000), (), rfl, (show (-1000000 : Int32) = sp_rel 6 p1 from (by unfold sp_rel; rw [if_neg (fun h9 => k_4 h9.2)])), trivial⟩, hS.F ht⟩) hS.2.2 dX10_relationOf_16
    · refine lv_if_ne (tgt := 17) hx hb dX10_relationOf_11 (by decide) (fun _ => ?_) (fun c => absurd c (by decide))
      refine lv_aload_n hx hb dX10_relationOf_17 rfl (lv_at hl 0 rfl) ?_
      refine lv_iload_n hx hb dX10_relationOf_18 rfl (lv_at hl 1 rfl) ?_
      have hPc := hP.sub (ws' := [(x0, .inr (10, [.ref xTape, .ref xReader, .ref xBag, .ref xBld, .ref xAng, .ref xSum, .ref xPik, .int 0, .ref xHan, .ref xIns, .ref xShr, .ref xSta, .ref xTur])), (xSum, .inr (8, [.ref sM, .ref sP, .ref sA, .int 0])), (xHan, .inr (3, [.int 0, .int 0, .int 0, .ref hH, .ref hR, .ref hT, .ref hM])), (hH, .inl (cI, 7, (.inl (fun _ => 0)))), (hT, .inl (cJ, 7, (.inr (.inl (fun _ => 0))))), (hM, .inl (cJ, 6, (.inr (.inl (fun _ => 0)))))]) [0, 1, 2, 3, 4, 5] rfl
      have hDc := hD.sub (ws' := [(x0, .inr (10, [.ref xTape, .ref xReader, .ref xBag, .ref xBld, .ref xAng, .ref xSum, .ref xPik, .int 0, .ref xHan, .ref xIns, .ref xShr, .ref xSta, .ref xTur])), (xSum, .inr (8, [.ref sM, .ref sP, .ref sA, .int 0])), (xHan, .inr (3, [.int 0, .int 0, .int 0, .ref hH, .ref hR, .ref hT, .ref hM])), (hH, .inl (cI, 7, (.inl (fun _ => 0)))), (hT, .inl (cJ, 7, (.inr (.inl (fun _ => 0))))), (hM, .inl (cJ, 6, (.inr (.inl (fun _ => 0)))))]) [0, 1, 2, 3, 4, 5] (by decide) rfl
      have hFc := va_free (wc := [(x0, .inr (10, [.ref xTape, .ref xReader, .ref xBag, .ref xBld, .ref xAng, .ref xSum, .ref xPik, .int 0, .ref xHan, .ref xIns, .ref xShr, .ref xSta, .ref xTur])), (xSum, .inr (8, [.ref sM, .ref sP, .ref sA, .int 0])), (xHan, .inr (3, [.int 0, .int 0, .int 0, .ref hH, .ref hR, .ref hT, .ref hM])), (hH, .inl (cI, 7, (.inl (fun _ => 0)))), (hT, .inl (cJ, 7, (.inr (.inl (fun _ => 0))))), (hM, .inl (cJ, 6, (.inr (.inl (fun _ => 0)))))]) hD hS hA [0, 1, 2, 3, 4, 5] rfl
      refine va_callv (va_runV (As := [.int 6]) (rest := []) ⟨hx, hb, hml, hown, hts⟩ (c_X10_hangSolids_6 l dC dI cB cI cJ H.size x0 xTape xReader xBag xBld xAng xSum xPik xHan xIns xShr xSta xTur sM sP sA hH hR hT hM (fun _ => 0) (fun _ => 0)) (cwV 1 hts gX10_relationOf_X10_hangSolids rfl rfl rfl (by decide +kernel) ⟨Nat.le_of_ble_eq_true rfl, Nat.le_of_ble_eq_true rfl⟩) ⟨fun a U g mk q => by obtain ⟨q0, q1, qP, qK, qD, qN0⟩ := q; exact ⟨q0, q1, qP, va_K.moved (u := U) (U := U.calling g mk a) (Vm.Alike.refl U.vm) qK, qD, va_Nw.same rfl rfl qN0⟩, va_recv hK hP (ci := 10) (q0 := 0) rfl rfl, fun U hU hW => ⟨rfl, by rw [hU], by rw [hU]; exact hPc, va_K.moved hW.alike hK, hDc.weaken (fun _ _ _ _ => trivial), va_Nw.warmM hW hN0⟩⟩ rfl rfl hl.1 rfl (lv_room (Nat.le_of_ble_eq_true rfl)) dX10_relationOf_19 ⟨Nat.le_of_ble_eq_true rfl, Nat.le_of_ble_eq_true rfl⟩) hS (fun q _ h => hFc q h) hFc (fun u t H1 locs ht hvm hw hB hz1 hk1 hS => ?_)
      obtain ⟨hP1, hK1, hD1⟩ := hB
      rw [ht] at hP1
      obtain ⟨hP, hD⟩ := va_join (wr := []) (w1 := [(x0, .inr (10, [.ref xTape, .ref xReader, .ref xBag, .ref xBld, .ref xAng, .ref xSum, .ref xPik, .int 0, .ref xHan, .ref xIns, .ref xShr, .ref xSta, .ref xTur])), (xHan, .inr (3, [.int 0, .int 2, .int 1, .ref hH, .ref hR, .ref hT, .ref hM])), (xSum, .inr (8, [.ref sM, .ref sP, .ref sA, .int 0])), (hH, .inl (cI, 7, (.inl (upd (upd (fun _ => 0) (0 : Int32).toNatClampNeg 1) (0 : Int32).toNatClampNeg 2)))), (hT, .inl (cJ, 7, (.inr (.inl (vp_updL (vp_updL (fun _ => 0) (0 : Int32).toNatClampNeg 1) (0 : Int32).toNatClampNeg 1))))), (hM, .inl (cJ, 6, (.inr (.inl (vp_updL (fun _ => 0) (0 : Int32).toNatClampNeg 1)))))]) hP hD [0, 1, 2, 3, 4, 5] [] rfl rfl (by decide) (by decide) hk1 hFc hP1 hD1
      generalize H1 = H at hP hS ⊢
      have hP : va_P (dC, dI) vwCl [(x0, .inr (10, [.ref xTape, .ref xReader, .ref xBag, .ref xBld, .ref xAng, .ref xSum, .ref xPik, .int 0, .ref xHan, .ref xIns, .ref xShr, .ref xSta, .ref xTur])), (xHan, .inr (3, [.int 0, .int 2, .int 1, .ref hH, .ref hR, .ref hT, .ref hM])), (xSum, .inr (8, [.ref sM, .ref sP, .ref sA, .int 0])), (hH, .inl (cI, 7, (.inl (upd (upd (fun _ => 0) (0 : Int32).toNatClampNeg 1) (0 : Int32).toNatClampNeg 2)))), (hT, .inl (cJ, 7, (.inr (.inl (vp_updL (vp_updL (fun _ => 0) (0 : Int32).toNatClampNeg 1) (0 : Int32).toNatClampNeg 1))))), (hM, .inl (cJ, 6, (.inr (.inl (vp_updL (fun _ => 0) (0 : Int32).toNatClampNeg 1)))))] H := hP
      have hD : va_D A [(x0, .inr (10, [.ref xTape, .ref xReader, .ref xBag, .ref xBld, .ref xAng, .ref xSum, .ref xPik, .int 0, .ref xHan, .ref xIns, .ref xShr, .ref xSta, .ref xTur])), (xHan, .inr (3, [.int 0, .int 2, .int 1, .ref hH, .ref hR, .ref hT, .ref hM])), (xSum, .inr (8, [.ref sM, .ref sP, .ref sA, .int 0])), (hH, .inl (cI, 7, (.inl (upd (upd (fun _ => 0) (0 : Int32).toNatClampNeg 1) (0 : Int32).toNatClampNeg 2)))), (hT, .inl (cJ, 7, (.inr (.inl (vp_updL (vp_updL (fun _ => 0) (0 : Int32).toNatClampNeg 1) (0 : Int32).toNatClampNeg 1))))), (hM, .inl (cJ, 6, (.inr (.inl (vp_updL (fun _ => 0) (0 : Int32).toNatClampNeg 1)))))] := hD
      refine lv_aload_n hx hb dX10_relationOf_22 rfl (lv_at hl 0 rfl) ?_
      refine va_get (D := (dC, dI)) (ci := 10) (v := .ref xHan) (C := RX10) (T := TX10) (N := 13) hx hb hts hiX10 hown hK hP 0 rfl rfl 8 (by decide) (hts (.fieldLink RX10 61 "ScissorsTable" "hang" "LScissorsTable$Hang;") (by decide +kernel)) (fun _ h9 => h9) rfl dX10_relationOf_23 ?_
      have hPc := hP.sub (ws' := [(xHan, .inr (3, [.int 0, .int 2, .int 1, .ref hH, .ref hR, .ref hT, .ref hM])), (hM, .inl (cJ, 6, (.inr (.inl (vp_updL (fun _ => 0) (0 : Int32).toNatClampNeg 1)))))]) [1, 5] rfl
      have hDc := hD.sub (ws' := [(xHan, .inr (3, [.int 0, .int 2, .int 1, .ref hH, .ref hR, .ref hT, .ref hM])), (hM, .inl (cJ, 6, (.inr (.inl (vp_updL (fun _ => 0) (0 : Int32).toNatClampNeg 1)))))]) [1, 5] (by decide) rfl
      have hFc := va_free (wc := [(xHan, .inr (3, [.int 0, .int 2, .int 1, .ref hH, .ref hR, .ref hT, .ref hM])), (hM, .inl (cJ, 6, (.inr (.inl (vp_updL (fun _ => 0) (0 : Int32).toNatClampNeg 1)))))]) hD hS hA [1, 5] rfl
      refine va_calli (va_runV (As := []) (rest := []) ⟨hx, hb, hml, hown, hts⟩ (c_X3_canTell_t2 l dC dI cB cI cJ H.size xHan hH hR hT hM) (cwV 0 hts gX10_relationOf_X3_canTell rfl rfl rfl (by decide +kernel) ⟨Nat.le_of_ble_eq_true rfl, Nat.le_of_ble_eq_true rfl⟩) ⟨fun a U g mk q => by obtain ⟨q0, q1, qP, qK, qD⟩ := q; exact ⟨q0, q1, qP, va_K.moved (u := U) (U := U.calling g mk a) (Vm.Alike.refl U.vm) qK, qD⟩, va_recv hK hP (ci := 3) (q0 := 1) rfl rfl, fun U hU hW => ⟨rfl, by rw [hU], by rw [hU]; exact hPc, va_K.moved hW.alike hK, hDc.weaken (fun _ _ _ _ => trivial)⟩⟩ rfl rfl hl.1 rfl (lv_room (Nat.le_of_ble_eq_true rfl)) dX10_relationOf_26 ⟨Nat.le_of_ble_eq_true rfl, Nat.le_of_ble_eq_true rfl⟩) hS (fun q _ h => hFc q h) hFc (fun r_5 u t H1 locs ht hvm hw hB hz1 hk1 hS => ?_)
      obtain ⟨hP1, hK1, hD1⟩ := hB
      rw [ht] at hP1
      obtain ⟨hP, hD⟩ := va_join (wr := [(x0, .inr (10, [.ref xTape, .ref xReader, .ref xBag, .ref xBld, .ref xAng, .ref xSum, .ref xPik, .int 0, .ref xHan, .ref xIns, .ref xShr, .ref xSta, .ref xTur])), (xSum, .inr (8, [.ref sM, .ref sP, .ref sA, .int 0])), (hH, .inl (cI, 7, (.inl (upd (upd (fun _ => 0) (0 : Int32).toNatClampNeg 1) (0 : Int32).toNatClampNeg 2)))), (hT, .inl (cJ, 7, (.inr (.inl (vp_updL (vp_updL (fun _ => 0) (0 : Int32).toNatClampNeg 1) (0 : Int32).toNatClampNeg 1)))))]) (w1 := [(xHan, .inr (3, [.int 0, .int 2, .int 1, .ref hH, .ref hR, .ref hT, .ref hM])), (hM, .inl (cJ, 6, (.inr (.inl (vp_updL (fun _ => 0) (0 : Int32).toNatClampNeg 1)))))]) hP hD [1, 5] [0, 2, 3, 4] rfl rfl (by decide) (by decide) hk1 hFc hP1 hD1
      generalize H1 = H at hP hS ⊢
      have hP : va_P (dC, dI) vwCl [(x0, .inr (10, [.ref xTape, .ref xReader, .ref xBag, .ref xBld, .ref xAng, .ref xSum, .ref xPik, .int 0, .ref xHan, .ref xIns, .ref xShr, .ref xSta, .ref xTur])), (xSum, .inr (8, [.ref sM, .ref sP, .ref sA, .int 0])), (hH, .inl (cI, 7, (.inl (upd (upd (fun _ => 0) (0 : Int32).toNatClampNeg 1) (0 : Int32).toNatClampNeg 2)))), (hT, .inl (cJ, 7, (.inr (.inl (vp_updL (vp_updL (fun _ => 0) (0 : Int32).toNatClampNeg 1) (0 : Int32).toNatClampNeg 1))))), (xHan, .inr (3, [.int 0, .int 2, .int 1, .ref hH, .ref hR, .ref hT, .ref hM])), (hM, .inl (cJ, 6, (.inr (.inl (vp_updL (fun _ => 0) (0 : Int32).toNatClampNeg 1)))))] H := hP
      have hD : va_D A [(x0, .inr (10, [.ref xTape, .ref xReader, .ref xBag, .ref xBld, .ref xAng, .ref xSum, .ref xPik, .int 0, .ref xHan, .ref xIns, .ref xShr, .ref xSta, .ref xTur])), (xSum, .inr (8, [.ref sM, .ref sP, .ref sA, .int 0])), (hH, .inl (cI, 7, (.inl (upd (upd (fun _ => 0) (0 : Int32).toNatClampNeg 1) (0 : Int32).toNatClampNeg 2)))), (hT, .inl (cJ, 7, (.inr (.inl (vp_updL (vp_updL (fun _ => 0) (0 : Int32).toNatClampNeg 1) (0 : Int32).toNatClampNeg 1))))), (xHan, .inr (3, [.int 0, .int 2, .int 1, .ref hH, .ref hR, .ref hT, .ref hM])), (hM, .inl (cJ, 6, (.inr (.inl (vp_updL (fun _ => 0) (0 : Int32).toNatClampNeg 1)))))] := hD
      have hr_5 := hw
      obtain rfl : r_5 = 1 := hr_5
      refine lv_if_ne (tgt := 35) hx hb dX10_relationOf_29 (by decide) (fun _ => ?_) (fun c => absurd c (by decide))
      rcases nk_split4 p1 (by (try simp only [nk_lt, nk_le, nk_eq, nk_wd, nk_c0, nk_c1, nk_c2, nk_c3, nk_c4, nk_c5, nk_c6, nk_c15, nk_c16, nk_c24, nk_c47, nk_c48, nk_c600, nk_c1728, nk_m1, nk_l0, nk_l1, nk_l2, nk_l3, nk_l5, nk_l15, nk_l24, nk_l47] at k_4); omega) with rfl | rfl | rfl | rfl
      · refine lv_iload_n hx hb dX10_relationOf_35 rfl (lv_at hl 1 rfl) ?_
        refine lv_iload_n hx hb dX10_relationOf_36 rfl (lv_at hl 2 rfl) ?_
        refine lv_ishr hx hb dX10_relationOf_37 ?_
        refine lv_topi (fun x_6 ex_6 => ?_)
        obtain rfl : x_6 = 6 := ex_6.trans (by first | rfl | decide)
        refine lv_iconst (v := 1) hx hb dX10_relationOf_38 (by decide) ?_
        refine lv_iand hx hb dX10_relationOf_39 ?_
        refine lv_topi (fun x_7 ex_7 => ?_)
        obtain rfl : x_7 = 0 := ex_7.trans (by first | rfl | decide)
        refine lv_if_ne (tgt := 45) hx hb dX10_relationOf_40 (by decide) (fun c => absurd (by decide) c) (fun _ => ?_)
        refine lv_iconst (v := 0) hx hb dX10_relationOf_43 (by decide) ?_
        refine W.widen (k := 0) (n := 0) (Nat.le_of_ble_eq_true rfl) (Nat.le_of_ble_eq_true rfl) ?_
        exact W.iret (v := 0) hx hb hr (fun t ht hW => ⟨⟨0, (), rfl, (by decide), trivial⟩, hS.F ht⟩) hS.2.2 dX10_relationOf_44
      · refine lv_iload_n hx hb dX10_relationOf_35 rfl (lv_at hl 1 rfl) ?_
        refine lv_iload_n hx hb dX10_relationOf_36 rfl (lv_at hl 2 rfl) ?_
        refine lv_ishr hx hb dX10_relationOf_37 ?_
        refine lv_topi (fun x_8 ex_8 => ?_)
        obtain rfl : x_8 = 3 := ex_8.trans (by first | rfl | decide)
        refine lv_iconst (v := 1) hx hb dX10_relationOf_38 (by decide) ?_
        refine lv_iand hx hb dX10_relationOf_39 ?_
        refine lv_topi (fun x_9 ex_9 => ?_)
        obtain rfl : x_9 = 1 := ex_9.trans (by first | rfl | decide)
        refine lv_if_ne (tgt := 45) hx hb dX10_relationOf_40 (by decide) (fun _ => ?_) (fun c => absurd c (by decide))
        refine lv_aload_n hx hb dX10_relationOf_45 rfl (lv_at hl 0 rfl) ?_
        refine va_get (D := (dC, dI)) (ci := 10) (v := .ref xHan) (C := RX10) (T := TX10) (N := 13) hx hb hts hiX10 hown hK hP 0 rfl rfl 8 (by decide) (hts (.fieldLink RX10 61 "ScissorsTable" "hang" "LScissorsTable$Hang;") (by decide +kernel)) (fun _ h9 => h9) rfl dX10_relationOf_46 ?_
        refine lv_iload_n hx hb dX10_relationOf_49 rfl (lv_at hl 1 rfl) ?_
        refine lv_iconst (v := 1) hx hb dX10_relationOf_50 (by decide) ?_
        refine lv_iload_n hx hb dX10_relationOf_51 rfl (lv_at hl 2 rfl) ?_
        refine lv_ishl hx hb dX10_relationOf_52 ?_
        refine lv_topi (fun x_10 ex_10 => ?_)
        obtain rfl : x_10 = 2 := ex_10.trans (by first | rfl | decide)
        refine lv_iconst (v := 1) hx hb dX10_relationOf_53 (by decide) ?_
        refine lv_isub hx hb dX10_relationOf_54 ?_
        refine lv_topi (fun x_11 ex_11 => ?_)
        obtain rfl : x_11 = 1 := ex_11.trans (by first | rfl | decide)
        refine lv_iand hx hb dX10_relationOf_55 ?_
        refine lv_topi (fun x_12 ex_12 => ?_)
        obtain rfl : x_12 = 0 := ex_12.trans (by first | rfl | decide)
        have hPc := hP.sub (ws' := []) [] rfl
        have hDc := hD.sub (ws' := []) [] (by decide) rfl
        have hFc := va_free (wc := []) hD hS hA [] rfl
        refine va_calli (va_runS (As := [.int 0]) (rest := [.ref xHan]) ⟨hx, hb, hml, hown, hts⟩ (c_J6_bitCount_0f7a4_0 l dC dI cB cI cJ H.size ) (va_cwS 1 hts gX10_relationOf_J6_bitCount_0f7a4 rfl rfl rfl (by decide +kernel) ⟨Nat.le_of_ble_eq_true rfl, Nat.le_of_ble_eq_true rfl⟩) ⟨fun a U g mk q => by obtain ⟨q0, q1, qP, qK, qD⟩ := q; exact ⟨q0, q1, qP, va_K.moved (u := U) (U := U.calling g mk a) (Vm.Alike.refl U.vm) qK, qD⟩, fun U hU hW => ⟨rfl, by rw [hU], by rw [hU]; exact hPc, va_K.moved hW.alike hK, hDc.weaken (fun _ _ _ _ => trivial)⟩⟩ rfl rfl hl.1 rfl (lv_room (Nat.le_of_ble_eq_true rfl)) dX10_relationOf_56 ⟨Nat.le_of_ble_eq_true rfl, Nat.le_of_ble_eq_true rfl⟩) hS (fun q _ h => hFc q h) hFc (fun r_13 u t H1 locs ht hvm hw hB hz1 hk1 hS => ?_)
        have hP1 : va_P (dC, dI) vwCl [] H1 := fun k q h => by simp at h
        have hD1 : va_D (va_A [] H.size) [] := ⟨fun i j p q h => by simp at h, fun k q h => by simp at h⟩
        obtain ⟨hP, hD⟩ := va_join (wr := [(x0, .inr (10, [.ref xTape, .ref xReader, .ref xBag, .ref xBld, .ref xAng, .ref xSum, .ref xPik, .int 0, .ref xHan, .ref xIns, .ref xShr, .ref xSta, .ref xTur])), (xSum, .inr (8, [.ref sM, .ref sP, .ref sA, .int 0])), (hH, .inl (cI, 7, (.inl (upd (upd (fun _ => 0) (0 : Int32).toNatClampNeg 1) (0 : Int32).toNatClampNeg 2)))), (hT, .inl (cJ, 7, (.inr (.inl (vp_updL (vp_updL (fun _ => 0) (0 : Int32).toNatClampNeg 1) (0 : Int32).toNatClampNeg 1))))), (xHan, .inr (3, [.int 0, .int 2, .int 1, .ref hH, .ref hR, .ref hT, .ref hM])), (hM, .inl (cJ, 6, (.inr (.inl (vp_updL (fun _ => 0) (0 : Int32).toNatClampNeg 1)))))]) (w1 := []) hP hD [] [0, 1, 2, 3, 4, 5] rfl rfl (by decide) (by decide) hk1 hFc hP1 hD1
        generalize H1 = H at hP hS ⊢
        have hP : va_P (dC, dI) vwCl [(x0, .inr (10, [.ref xTape, .ref xReader, .ref xBag, .ref xBld, .ref xAng, .ref xSum, .ref xPik, .int 0, .ref xHan, .ref xIns, .ref xShr, .ref xSta, .ref xTur])), (xSum, .inr (8, [.ref sM, .ref sP, .ref sA, .int 0])), (hH, .inl (cI, 7, (.inl (upd (upd (fun _ => 0) (0 : Int32).toNatClampNeg 1) (0 : Int32).toNatClampNeg 2)))), (hT, .inl (cJ, 7, (.inr (.inl (vp_updL (vp_updL (fun _ => 0) (0 : Int32).toNatClampNeg 1) (0 : Int32).toNatClampNeg 1))))), (xHan, .inr (3, [.int 0, .int 2, .int 1, .ref hH, .ref hR, .ref hT, .ref hM])), (hM, .inl (cJ, 6, (.inr (.inl (vp_updL (fun _ => 0) (0 : Int32).toNatClampNeg 1)))))] H := hP
        have hD : va_D A [(x0, .inr (10, [.ref xTape, .ref xReader, .ref xBag, .ref xBld, .ref xAng, .ref xSum, .ref xPik, .int 0, .ref xHan, .ref xIns, .ref xShr, .ref xSta, .ref xTur])), (xSum, .inr (8, [.ref sM, .ref sP, .ref sA, .int 0])), (hH, .inl (cI, 7, (.inl (upd (upd (fun _ => 0) (0 : Int32).toNatClampNeg 1) (0 : Int32).toNatClampNeg 2)))), (hT, .inl (cJ, 7, (.inr (.inl (vp_updL (vp_updL (fun _ => 0) (0 : Int32).toNatClampNeg 1) (0 : Int32).toNatClampNeg 1))))), (xHan, .inr (3, [.int 0, .int 2, .int 1, .ref hH, .ref hR, .ref hT, .ref hM])), (hM, .inl (cJ, 6, (.inr (.inl (vp_updL (fun _ => 0) (0 : Int32).toNatClampNeg 1)))))] := hD
        have hr_13 := hw
        obtain rfl : r_13 = 0 := hr_13
        have hPc := hP.sub (ws' := [(xHan, .inr (3, [.int 0, .int 2, .int 1, .ref hH, .ref hR, .ref hT, .ref hM])), (hM, .inl (cJ, 6, (.inr (.inl (vp_updL (fun _ => 0) (0 : Int32).toNatClampNeg 1)))))]) [4, 5] rfl
        have hDc := hD.sub (ws' := [(xHan, .inr (3, [.int 0, .int 2, .int 1, .ref hH, .ref hR, .ref hT, .ref hM])), (hM, .inl (cJ, 6, (.inr (.inl (vp_updL (fun _ => 0) (0 : Int32).toNatClampNeg 1)))))]) [4, 5] (by decide) rfl
        have hFc := va_free (wc := [(xHan, .inr (3, [.int 0, .int 2, .int 1, .ref hH, .ref hR, .ref hT, .ref hM])), (hM, .inl (cJ, 6, (.inr (.inl (vp_updL (fun _ => 0) (0 : Int32).toNatClampNeg 1)))))]) hD hS hA [4, 5] rfl
        refine va_calli (va_runV (As := [.int 0]) (rest := []) ⟨hx, hb, hml, hown, hts⟩ (c_X3_timesOf_t2_0 l dC dI cB cI cJ H.size xHan hH hR hT hM) (cwV 1 hts gX10_relationOf_X3_timesOf rfl rfl rfl (by decide +kernel) ⟨Nat.le_of_ble_eq_true rfl, Nat.le_of_ble_eq_true rfl⟩) ⟨fun a U g mk q => by obtain ⟨q0, q1, qP, qK, qD⟩ := q; exact ⟨q0, q1, qP, va_K.moved (u := U) (U := U.calling g mk a) (Vm.Alike.refl U.vm) qK, qD⟩, va_recv hK hP (ci := 3) (q0 := 4) rfl rfl, fun U hU hW => ⟨rfl, by rw [hU], by rw [hU]; exact hPc, va_K.moved hW.alike hK, hDc.weaken (fun _ _ _ _ => trivial)⟩⟩ rfl rfl hl.1 rfl (lv_room (Nat.le_of_ble_eq_true rfl)) dX10_relationOf_59 ⟨Nat.le_of_ble_eq_true rfl, Nat.le_of_ble_eq_true rfl⟩) hS (fun q _ h => hFc q h) hFc (fun r_14 u t H1 locs ht hvm hw hB hz1 hk1 hS => ?_)
        have hP1 : va_P (dC, dI) vwCl [] H1 := fun k q h => by simp at h
        have hD1 : va_D (va_A [(xHan, .inr (3, [.int 0, .int 2, .int 1, .ref hH, .ref hR, .ref hT, .ref hM])), (hM, .inl (cJ, 6, (.inr (.inl (vp_updL (fun _ => 0) (0 : Int32).toNatClampNeg 1)))))] H.size) [] := ⟨fun i j p q h => by simp at h, fun k q h => by simp at h⟩
        obtain ⟨hP, hD⟩ := va_join (wr := [(x0, .inr (10, [.ref xTape, .ref xReader, .ref xBag, .ref xBld, .ref xAng, .ref xSum, .ref xPik, .int 0, .ref xHan, .ref xIns, .ref xShr, .ref xSta, .ref xTur])), (xSum, .inr (8, [.ref sM, .ref sP, .ref sA, .int 0])), (hH, .inl (cI, 7, (.inl (upd (upd (fun _ => 0) (0 : Int32).toNatClampNeg 1) (0 : Int32).toNatClampNeg 2)))), (hT, .inl (cJ, 7, (.inr (.inl (vp_updL (vp_updL (fun _ => 0) (0 : Int32).toNatClampNeg 1) (0 : Int32).toNatClampNeg 1)))))]) (w1 := []) hP hD [4, 5] [0, 1, 2, 3] rfl rfl (by decide) (by decide) hk1 hFc hP1 hD1
        generalize H1 = H at hP hS ⊢
        have hP : va_P (dC, dI) vwCl [(x0, .inr (10, [.ref xTape, .ref xReader, .ref xBag, .ref xBld, .ref xAng, .ref xSum, .ref xPik, .int 0, .ref xHan, .ref xIns, .ref xShr, .ref xSta, .ref xTur])), (xSum, .inr (8, [.ref sM, .ref sP, .ref sA, .int 0])), (hH, .inl (cI, 7, (.inl (upd (upd (fun _ => 0) (0 : Int32).toNatClampNeg 1) (0 : Int32).toNatClampNeg 2)))), (hT, .inl (cJ, 7, (.inr (.inl (vp_updL (vp_updL (fun _ => 0) (0 : Int32).toNatClampNeg 1) (0 : Int32).toNatClampNeg 1)))))] H := hP
        have hD : va_D A [(x0, .inr (10, [.ref xTape, .ref xReader, .ref xBag, .ref xBld, .ref xAng, .ref xSum, .ref xPik, .int 0, .ref xHan, .ref xIns, .ref xShr, .ref xSta, .ref xTur])), (xSum, .inr (8, [.ref sM, .ref sP, .ref sA, .int 0])), (hH, .inl (cI, 7, (.inl (upd (upd (fun _ => 0) (0 : Int32).toNatClampNeg 1) (0 : Int32).toNatClampNeg 2)))), (hT, .inl (cJ, 7, (.inr (.inl (vp_updL (vp_updL (fun _ => 0) (0 : Int32).toNatClampNeg 1) (0 : Int32).toNatClampNeg 1)))))] := hD
        have hr_14 := hw
        obtain rfl : r_14 = 1 := hr_14
        refine W.widen (k := 0) (n := 0) (Nat.le_of_ble_eq_true rfl) (Nat.le_of_ble_eq_true rfl) ?_
        exact W.iret (v := 1) hx hb hr (fun t ht hW => ⟨⟨1, (), rfl, (by decide), trivial⟩, hS.F ht⟩) hS.2.2 dX10_relationOf_62
      · refine lv_iload_n hx hb dX10_relationOf_35 rfl (lv_at hl 1 rfl) ?_
        refine lv_iload_n hx hb dX10_relationOf_36 rfl (lv_at hl 2 rfl) ?_
        refine lv_ishr hx hb dX10_relationOf_37 ?_
        refine lv_topi (fun x_15 ex_15 => ?_)
        obtain rfl : x_15 = 1 := ex_15.trans (by first | rfl | decide)
        refine lv_iconst (v := 1) hx hb dX10_relationOf_38 (by decide) ?_
        refine lv_iand hx hb dX10_relationOf_39 ?_
        refine lv_topi (fun x_16 ex_16 => ?_)
        obtain rfl : x_16 = 1 := ex_16.trans (by first | rfl | decide)
        refine lv_if_ne (tgt := 45) hx hb dX10_relationOf_40 (by decide) (fun _ => ?_) (fun c => absurd c (by decide))
        refine lv_aload_n hx hb dX10_relationOf_45 rfl (lv_at hl 0 rfl) ?_
        refine va_get (D := (dC, dI)) (ci := 10) (v := .ref xHan) (C := RX10) (T := TX10) (N := 13) hx hb hts hiX10 hown hK hP 0 rfl rfl 8 (by decide) (hts (.fieldLink RX10 61 "ScissorsTable" "hang" "LScissorsTable$Hang;") (by decide +kernel)) (fun _ h9 => h9) rfl dX10_relationOf_46 ?_
        refine lv_iload_n hx hb dX10_relationOf_49 rfl (lv_at hl 1 rfl) ?_
        refine lv_iconst (v := 1) hx hb dX10_relationOf_50 (by decide) ?_
        refine lv_iload_n hx hb dX10_relationOf_51 rfl (lv_at hl 2 rfl) ?_
        refine lv_ishl hx hb dX10_relationOf_52 ?_
        refine lv_topi (fun x_17 ex_17 => ?_)
        obtain rfl : x_17 = 4 := ex_17.trans (by first | rfl | decide)
        refine lv_iconst (v := 1) hx hb dX10_relationOf_53 (by decide) ?_
        refine lv_isub hx hb dX10_relationOf_54 ?_
        refine lv_topi (fun x_18 ex_18 => ?_)
        obtain rfl : x_18 = 3 := ex_18.trans (by first | rfl | decide)
        refine lv_iand hx hb dX10_relationOf_55 ?_
        refine lv_topi (fun x_19 ex_19 => ?_)
        obtain rfl : x_19 = 2 := ex_19.trans (by first | rfl | decide)
        have hPc := hP.sub (ws' := []) [] rfl
        have hDc := hD.sub (ws' := []) [] (by decide) rfl
        have hFc := va_free (wc := []) hD hS hA [] rfl
        refine va_calli (va_runS (As := [.int 2]) (rest := [.ref xHan]) ⟨hx, hb, hml, hown, hts⟩ (c_J6_bitCount_0f7a4_2 l dC dI cB cI cJ H.size ) (va_cwS 1 hts gX10_relationOf_J6_bitCount_0f7a4 rfl rfl rfl (by decide +kernel) ⟨Nat.le_of_ble_eq_true rfl, Nat.le_of_ble_eq_true rfl⟩) ⟨fun a U g mk q => by obtain ⟨q0, q1, qP, qK, qD⟩ := q; exact ⟨q0, q1, qP, va_K.moved (u := U) (U := U.calling g mk a) (Vm.Alike.refl U.vm) qK, qD⟩, fun U hU hW => ⟨rfl, by rw [hU], by rw [hU]; exact hPc, va_K.moved hW.alike hK, hDc.weaken (fun _ _ _ _ => trivial)⟩⟩ rfl rfl hl.1 rfl (lv_room (Nat.le_of_ble_eq_true rfl)) dX10_relationOf_56 ⟨Nat.le_of_ble_eq_true rfl, Nat.le_of_ble_eq_true rfl⟩) hS (fun q _ h => hFc q h) hFc (fun r_20 u t H1 locs ht hvm hw hB hz1 hk1 hS => ?_)
        have hP1 : va_P (dC, dI) vwCl [] H1 := fun k q h => by simp at h
        have hD1 : va_D (va_A [] H.size) [] := ⟨fun i j p q h => by simp at h, fun k q h => by simp at h⟩
        obtain ⟨hP, hD⟩ := va_join (wr := [(x0, .inr (10, [.ref xTape, .ref xReader, .ref xBag, .ref xBld, .ref xAng, .ref xSum, .ref xPik, .int 0, .ref xHan, .ref xIns, .ref xShr, .ref xSta, .ref xTur])), (xSum, .inr (8, [.ref sM, .ref sP, .ref sA, .int 0])), (hH, .inl (cI, 7, (.inl (upd (upd (fun _ => 0) (0 : Int32).toNatClampNeg 1) (0 : Int32).toNatClampNeg 2)))), (hT, .inl (cJ, 7, (.inr (.inl (vp_updL (vp_updL (fun _ => 0) (0 : Int32).toNatClampNeg 1) (0 : Int32).toNatClampNeg 1))))), (xHan, .inr (3, [.int 0, .int 2, .int 1, .ref hH, .ref hR, .ref hT, .ref hM])), (hM, .inl (cJ, 6, (.inr (.inl (vp_updL (fun _ => 0) (0 : Int32).toNatClampNeg 1)))))]) (w1 := []) hP hD [] [0, 1, 2, 3, 4, 5] rfl rfl (by decide) (by decide) hk1 hFc hP1 hD1
        generalize H1 = H at hP hS ⊢
        have hP : va_P (dC, dI) vwCl [(x0, .inr (10, [.ref xTape, .ref xReader, .ref xBag, .ref xBld, .ref xAng, .ref xSum, .ref xPik, .int 0, .ref xHan, .ref xIns, .ref xShr, .ref xSta, .ref xTur])), (xSum, .inr (8, [.ref sM, .ref sP, .ref sA, .int 0])), (hH, .inl (cI, 7, (.inl (upd (upd (fun _ => 0) (0 : Int32).toNatClampNeg 1) (0 : Int32).toNatClampNeg 2)))), (hT, .inl (cJ, 7, (.inr (.inl (vp_updL (vp_updL (fun _ => 0) (0 : Int32).toNatClampNeg 1) (0 : Int32).toNatClampNeg 1))))), (xHan, .inr (3, [.int 0, .int 2, .int 1, .ref hH, .ref hR, .ref hT, .ref hM])), (hM, .inl (cJ, 6, (.inr (.inl (vp_updL (fun _ => 0) (0 : Int32).toNatClampNeg 1)))))] H := hP
        have hD : va_D A [(x0, .inr (10, [.ref xTape, .ref xReader, .ref xBag, .ref xBld, .ref xAng, .ref xSum, .ref xPik, .int 0, .ref xHan, .ref xIns, .ref xShr, .ref xSta, .ref xTur])), (xSum, .inr (8, [.ref sM, .ref sP, .ref sA, .int 0])), (hH, .inl (cI, 7, (.inl (upd (upd (fun _ => 0) (0 : Int32).toNatClampNeg 1) (0 : Int32).toNatClampNeg 2)))), (hT, .inl (cJ, 7, (.inr (.inl (vp_updL (vp_updL (fun _ => 0) (0 : Int32).toNatClampNeg 1) (0 : Int32).toNatClampNeg 1))))), (xHan, .inr (3, [.int 0, .int 2, .int 1, .ref hH, .ref hR, .ref hT, .ref hM])), (hM, .inl (cJ, 6, (.inr (.inl (vp_updL (fun _ => 0) (0 : Int32).toNatClampNeg 1)))))] := hD
        have hr_20 := hw
        obtain rfl : r_20 = 1 := hr_20
        have hPc := hP.sub (ws' := [(xHan, .inr (3, [.int 0, .int 2, .int 1, .ref hH, .ref hR, .ref hT, .ref hM])), (hM, .inl (cJ, 6, (.inr (.inl (vp_updL (fun _ => 0) (0 : Int32).toNatClampNeg 1)))))]) [4, 5] rfl
        have hDc := hD.sub (ws' := [(xHan, .inr (3, [.int 0, .int 2, .int 1, .ref hH, .ref hR, .ref hT, .ref hM])), (hM, .inl (cJ, 6, (.inr (.inl (vp_updL (fun _ => 0) (0 : Int32).toNatClampNeg 1)))))]) [4, 5] (by decide) rfl
        have hFc := va_free (wc := [(xHan, .inr (3, [.int 0, .int 2, .int 1, .ref hH, .ref hR, .ref hT, .ref hM])), (hM, .inl (cJ, 6, (.inr (.inl (vp_updL (fun _ => 0) (0 : Int32).toNatClampNeg 1)))))]) hD hS hA [4, 5] rfl
        refine va_calli (va_runV (As := [.int 1]) (rest := []) ⟨hx, hb, hml, hown, hts⟩ (c_X3_timesOf_t2_1 l dC dI cB cI cJ H.size xHan hH hR hT hM) (cwV 1 hts gX10_relationOf_X3_timesOf rfl rfl rfl (by decide +kernel) ⟨Nat.le_of_ble_eq_true rfl, Nat.le_of_ble_eq_true rfl⟩) ⟨fun a U g mk q => by obtain ⟨q0, q1, qP, qK, qD⟩ := q; exact ⟨q0, q1, qP, va_K.moved (u := U) (U := U.calling g mk a) (Vm.Alike.refl U.vm) qK, qD⟩, va_recv hK hP (ci := 3) (q0 := 4) rfl rfl, fun U hU hW => ⟨rfl, by rw [hU], by rw [hU]; exact hPc, va_K.moved hW.alike hK, hDc.weaken (fun _ _ _ _ => trivial)⟩⟩ rfl rfl hl.1 rfl (lv_room (Nat.le_of_ble_eq_true rfl)) dX10_relationOf_59 ⟨Nat.le_of_ble_eq_true rfl, Nat.le_of_ble_eq_true rfl⟩) hS (fun q _ h => hFc q h) hFc (fun r_21 u t H1 locs ht hvm hw hB hz1 hk1 hS => ?_)
        have hP1 : va_P (dC, dI) vwCl [] H1 := fun k q h => by simp at h
        have hD1 : va_D (va_A [(xHan, .inr (3, [.int 0, .int 2, .int 1, .ref hH, .ref hR, .ref hT, .ref hM])), (hM, .inl (cJ, 6, (.inr (.inl (vp_updL (fun _ => 0) (0 : Int32).toNatClampNeg 1)))))] H.size) [] := ⟨fun i j p q h => by simp at h, fun k q h => by simp at h⟩
        obtain ⟨hP, hD⟩ := va_join (wr := [(x0, .inr (10, [.ref xTape, .ref xReader, .ref xBag, .ref xBld, .ref xAng, .ref xSum, .ref xPik, .int 0, .ref xHan, .ref xIns, .ref xShr, .ref xSta, .ref xTur])), (xSum, .inr (8, [.ref sM, .ref sP, .ref sA, .int 0])), (hH, .inl (cI, 7, (.inl (upd (upd (fun _ => 0) (0 : Int32).toNatClampNeg 1) (0 : Int32).toNatClampNeg 2)))), (hT, .inl (cJ, 7, (.inr (.inl (vp_updL (vp_updL (fun _ => 0) (0 : Int32).toNatClampNeg 1) (0 : Int32).toNatClampNeg 1)))))]) (w1 := []) hP hD [4, 5] [0, 1, 2, 3] rfl rfl (by decide) (by decide) hk1 hFc hP1 hD1
        generalize H1 = H at hP hS ⊢
        have hP : va_P (dC, dI) vwCl [(x0, .inr (10, [.ref xTape, .ref xReader, .ref xBag, .ref xBld, .ref xAng, .ref xSum, .ref xPik, .int 0, .ref xHan, .ref xIns, .ref xShr, .ref xSta, .ref xTur])), (xSum, .inr (8, [.ref sM, .ref sP, .ref sA, .int 0])), (hH, .inl (cI, 7, (.inl (upd (upd (fun _ => 0) (0 : Int32).toNatClampNeg 1) (0 : Int32).toNatClampNeg 2)))), (hT, .inl (cJ, 7, (.inr (.inl (vp_updL (vp_updL (fun _ => 0) (0 : Int32).toNatClampNeg 1) (0 : Int32).toNatClampNeg 1)))))] H := hP
        have hD : va_D A [(x0, .inr (10, [.ref xTape, .ref xReader, .ref xBag, .ref xBld, .ref xAng, .ref xSum, .ref xPik, .int 0, .ref xHan, .ref xIns, .ref xShr, .ref xSta, .ref xTur])), (xSum, .inr (8, [.ref sM, .ref sP, .ref sA, .int 0])), (hH, .inl (cI, 7, (.inl (upd (upd (fun _ => 0) (0 : Int32).toNatClampNeg 1) (0 : Int32).toNatClampNeg 2)))), (hT, .inl (cJ, 7, (.inr (.inl (vp_updL (vp_updL (fun _ => 0) (0 : Int32).toNatClampNeg 1) (0 : Int32).toNatClampNeg 1)))))] := hD
        have hr_21 := hw
        obtain rfl : r_21 = 0 := hr_21
        refine W.widen (k := 0) (n := 0) (Nat.le_of_ble_eq_true rfl) (Nat.le_of_ble_eq_true rfl) ?_
        exact W.iret (v := 0) hx hb hr (fun t ht hW => ⟨⟨0, (), rfl, (by decide), trivial⟩, hS.F ht⟩) hS.2.2 dX10_relationOf_62
      · refine lv_iload_n hx hb dX10_relationOf_35 rfl (lv_at hl 1 rfl) ?_
        refine lv_iload_n hx hb dX10_relationOf_36 rfl (lv_at hl 2 rfl) ?_
        refine lv_ishr hx hb dX10_relationOf_37 ?_
        refine lv_topi (fun x_22 ex_22 => ?_)
        obtain rfl : x_22 = 0 := ex_22.trans (by first | rfl | decide)
        refine lv_iconst (v := 1) hx hb dX10_relationOf_38 (by decide) ?_
        refine lv_iand hx hb dX10_relationOf_39 ?_
        refine lv_topi (fun x_23 ex_23 => ?_)
        obtain rfl : x_23 = 0 := ex_23.trans (by first | rfl | decide)
        refine lv_if_ne (tgt := 45) hx hb dX10_relationOf_40 (by decide) (fun c => absurd (by decide) c) (fun _ => ?_)
        refine lv_iconst (v := 0) hx hb dX10_relationOf_43 (by decide) ?_
        refine W.widen (k := 0) (n := 0) (Nat.le_of_ble_eq_true rfl) (Nat.le_of_ble_eq_true rfl) ?_
        exact W.iret (v := 0) hx hb hr (fun t ht hW => ⟨⟨0, (), rfl, (by decide), trivial⟩, hS.F ht⟩) hS.2.2 dX10_relationOf_44
set_option maxHeartbeats 4000000 in
set_option maxRecDepth 100000 in
theorem c_X10_relationOf_7 (l : Launch) (dC : Nat → ClassId) (dI : Nat → Nat → Nat) (cB cI cJ : ClassId) (sz : Nat) (x0 xTape xReader xBag xBld xAng xSum xPik xHan xIns xShr xSta xTur sM sP sA hH hR hT hM : Nat) (p1 : Int32) : Met l yX10_relationOf wsX10_relationOf ({ frames := 12, cells := 0, slots := 0, locals := 400 }) (va_Pc [.ref x0, .int 7, .int p1] (fun U => U.heap.size = sz ∧ va_P (dC, dI) vwCl [(x0, .inr (10, [.ref xTape, .ref xReader, .ref xBag, .ref xBld, .ref xAng, .ref xSum, .ref xPik, .int 0, .ref xHan, .ref xIns, .ref xShr, .ref xSta, .ref xTur])), (xSum, .inr (8, [.ref sM, .ref sP, .ref sA, .int 0])), (xHan, .inr (3, [.int 0, .int 0, .int 0, .ref hH, .ref hR, .ref hT, .ref hM])), (hH, .inl (cI, 7, (.inl (fun _ => 0)))), (hT, .inl (cJ, 7, (.inr (.inl (fun _ => 0))))), (hM, .inl (cJ, 6, (.inr (.inl (fun _ => 0)))))] U.heap ∧ va_K (dC, dI) vwCl [(cB, .byte), (cI, .int), (cJ, .long)] U ∧ va_D (fun _ => True) [(x0, .inr (10, [.ref xTape, .ref xReader, .ref xBag, .ref xBld, .ref xAng, .ref xSum, .ref xPik, .int 0, .ref xHan, .ref xIns, .ref xShr, .ref xSta, .ref xTur])), (xSum, .inr (8, [.ref sM, .ref sP, .ref sA, .int 0])), (xHan, .inr (3, [.int 0, .int 0, .int 0, .ref hH, .ref hR, .ref hT, .ref hM])), (hH, .inl (cI, 7, (.inl (fun _ => 0)))), (hT, .inl (cJ, 7, (.inr (.inl (fun _ => 0))))), (hM, .inl (cJ, 6, (.inr (.inl (fun _ => 0)))))] ∧ va_Nw (.methodLinkNest RX3 62 yX10_gcd "ScissorsTable") U)) (va_Qi (fun (r : Int32) (_ : Unit) => r = sp_rel 7 p1) (fun _ _ => True) (va_A [(x0, .inr (10, [.ref xTape, .ref xReader, .ref xBag, .ref xBld, .ref xAng, .ref xSum, .ref xPik, .int 0, .ref xHan, .ref xIns, .ref xShr, .ref xSta, .ref xTur])), (xSum, .inr (8, [.ref sM, .ref sP, .ref sA, .int 0])), (xHan, .inr (3, [.int 0, .int 0, .int 0, .ref hH, .ref hR, .ref hT, .ref hM])), (hH, .inl (cI, 7, (.inl (fun _ => 0)))), (hT, .inl (cJ, 7, (.inr (.inl (fun _ => 0))))), (hM, .inl (cJ, 6, (.inr (.inl (fun _ => 0)))))] sz)) 0 0 (va_A [(x0, .inr (10, [.ref xTape, .ref xReader, .ref xBag, .ref xBld, .ref xAng, .ref xSum, .ref xPik, .int 0, .ref xHan, .ref xIns, .ref xShr, .ref xSta, .ref xTur])), (xSum, .inr (8, [.ref sM, .ref sP, .ref sA, .int 0])), (xHan, .inr (3, [.int 0, .int 0, .int 0, .ref hH, .ref hR, .ref hT, .ref hM])), (hH, .inl (cI, 7, (.inl (fun _ => 0)))), (hT, .inl (cJ, 7, (.inr (.inl (fun _ => 0))))), (hM, .inl (cJ, 6, (.inr (.inl (fun _ => 0)))))] sz) := by
  refine Met.ofW (cc := cX10_relationOf) (maxL := 3) (ret := (some .int)) (by decide) rfl ?_
  intro p e s m args below meth c s₁ B hml hv
  obtain ⟨rfl, hsz, hP, hK, hD0, hN0⟩ := hv
  have hx := B.exec
  have hb := B.bytes
  have hr := B.returns
  have hts := atoms_spec (ws := wsX10_relationOf) B.pre
  have hown : s.vm.findClass RX10 = some m.cls := findClass_of_methodNamed B.named
  have hlocks := B.notSynchronized
  have hiX10 : ∀ w ∈ u_ws RX10 TX10 13, w ∈ wsX10_relationOf := by decide +kernel
  subst hsz
  have hD := hD0.self (sz := s.heap.size)
  generalize hAe : va_A [(x0, .inr (10, [.ref xTape, .ref xReader, .ref xBag, .ref xBld, .ref xAng, .ref xSum, .ref xPik, .int 0, .ref xHan, .ref xIns, .ref xShr, .ref xSta, .ref xTur])), (xSum, .inr (8, [.ref sM, .ref sP, .ref sA, .int 0])), (xHan, .inr (3, [.int 0, .int 0, .int 0, .ref hH, .ref hR, .ref hT, .ref hM])), (hH, .inl (cI, 7, (.inl (fun _ => 0)))), (hT, .inl (cJ, 7, (.inr (.inl (fun _ => 0))))), (hM, .inl (cJ, 6, (.inr (.inl (fun _ => 0)))))] s.heap.size = A at hD ⊢
  have hA : ∀ q : Nat, s.heap.size ≤ q → A q := fun q h => by rw [← hAe]; exact Or.inr h
  have hS : va_S A s.heap s.heap [] := va_S.rf
  have hP : va_P (dC, dI) vwCl [(x0, .inr (10, [.ref xTape, .ref xReader, .ref xBag, .ref xBld, .ref xAng, .ref xSum, .ref xPik, .int 0, .ref xHan, .ref xIns, .ref xShr, .ref xSta, .ref xTur])), (xSum, .inr (8, [.ref sM, .ref sP, .ref sA, .int 0])), (xHan, .inr (3, [.int 0, .int 0, .int 0, .ref hH, .ref hR, .ref hT, .ref hM])), (hH, .inl (cI, 7, (.inl (fun _ => 0)))), (hT, .inl (cJ, 7, (.inr (.inl (fun _ => 0))))), (hM, .inl (cJ, 6, (.inr (.inl (fun _ => 0)))))] s.heap := hP
  have hl := lv_entry ([.ref x0, .int 7, .int p1]) (n := 3) (Nat.le_of_ble_eq_true rfl)
  rw [lg_entry_eq]
  generalize (lg_sl ([.ref x0, .int 7, .int p1]) ++ List.replicate (3 - (lg_sl ([.ref x0, .int 7, .int p1])).length) Slot.unset).toArray = ls at hl ⊢
  have hl : lv_has ls 3 [(0, .ref x0), (1, .int 7), (2, .int p1)] := hl
  refine lv_iload_n hx hb dX10_relationOf_0 rfl (lv_at hl 1 rfl) ?_
  have hPc := hP.sub (ws' := []) [] rfl
  have hDc := hD.sub (ws' := []) [] (by decide) rfl
  have hFc := va_free (wc := []) hD hS hA [] rfl
  refine va_calli (va_runS (As := [.int 7]) (rest := []) ⟨hx, hb, hml, hown, hts⟩ (c_X10_isSetOfSolids l dC dI cB cI cJ s.heap.size 7) (va_cwS 1 hts gX10_relationOf_X10_isSetOfSolids rfl rfl rfl (by decide +kernel) ⟨Nat.le_of_ble_eq_true rfl, Nat.le_of_ble_eq_true rfl⟩) ⟨fun a U g mk q => by obtain ⟨q0, q1, qP, qK, qD⟩ := q; exact ⟨q0, q1, qP, va_K.moved (u := U) (U := U.calling g mk a) (Vm.Alike.refl U.vm) qK, qD⟩, fun U hU hW => ⟨rfl, by rw [hU], by rw [hU]; exact hPc, va_K.moved hW.alike hK, hDc.weaken (fun _ _ _ _ => trivial)⟩⟩ rfl rfl hl.1 rfl (lv_room (Nat.le_of_ble_eq_true rfl)) dX10_relationOf_1 ⟨Nat.le_of_ble_eq_true rfl, Nat.le_of_ble_eq_true rfl⟩) hS (fun q _ h => hFc q h) hFc (fun r_1 u t H1 locs ht hvm hw hB hz1 hk1 hS => ?_)
  have hP1 : va_P (dC, dI) vwCl [] H1 := fun k q h => by simp at h
  have hD1 : va_D (va_A [] s.heap.size) [] := ⟨fun i j p q h => by simp at h, fun k q h => by simp at h⟩
  obtain ⟨hP, hD⟩ := va_join (wr := [(x0, .inr (10, [.ref xTape, .ref xReader, .ref xBag, .ref xBld, .ref xAng, .ref xSum, .ref xPik, .int 0, .ref xHan, .ref xIns, .ref xShr, .ref xSta, .ref xTur])), (xSum, .inr (8, [.ref sM, .ref sP, .ref sA, .int 0])), (xHan, .inr (3, [.int 0, .int 0, .int 0, .ref hH, .ref hR, .ref hT, .ref hM])), (hH, .inl (cI, 7, (.inl (fun _ => 0)))), (hT, .inl (cJ, 7, (.inr (.inl (fun _ => 0))))), (hM, .inl (cJ, 6, (.inr (.inl (fun _ => 0)))))]) (w1 := []) hP hD [] [0, 1, 2, 3, 4, 5] rfl rfl (by decide) (by decide) hk1 hFc hP1 hD1
  generalize H1 = H at hP hS ⊢
  have hP : va_P (dC, dI) vwCl [(x0, .inr (10, [.ref xTape, .ref xReader, .ref xBag, .ref xBld, .ref xAng, .ref xSum, .ref xPik, .int 0, .ref xHan, .ref xIns, .ref xShr, .ref xSta, .ref xTur])), (xSum, .inr (8, [.ref sM, .ref sP, .ref sA, .int 0])), (xHan, .inr (3, [.int 0, .int 0, .int 0, .ref hH, .ref hR, .ref hT, .ref hM])), (hH, .inl (cI, 7, (.inl (fun _ => 0)))), (hT, .inl (cJ, 7, (.inr (.inl (fun _ => 0))))), (hM, .inl (cJ, 6, (.inr (.inl (fun _ => 0)))))] H := hP
  have hD : va_D A [(x0, .inr (10, [.ref xTape, .ref xReader, .ref xBag, .ref xBld, .ref xAng, .ref xSum, .ref xPik, .int 0, .ref xHan, .ref xIns, .ref xShr, .ref xSta, .ref xTur])), (xSum, .inr (8, [.ref sM, .ref sP, .ref sA, .int 0])), (xHan, .inr (3, [.int 0, .int 0, .int 0, .ref hH, .ref hR, .ref hT, .ref hM])), (hH, .inl (cI, 7, (.inl (fun _ => 0)))), (hT, .inl (cJ, 7, (.inr (.inl (fun _ => 0))))), (hM, .inl (cJ, 6, (.inr (.inl (fun _ => 0)))))] := hD
  rcases hw with ⟨rfl, k_2⟩ | ⟨rfl, k_2⟩
  · refine lv_if_eq (tgt := 14) hx hb dX10_relationOf_4 (by decide) (fun _ => ?_) (fun c => absurd (by decide) c)
    refine lv_ldc (v := (-1000000)) hx hb hown (hts (.constant RX10 140 (-1000000)) (by decide +kernel)) dX10_relationOf_14 ?_
    refine W.widen (k := 0) (n := 0) (Nat.le_of_ble_eq_true rfl) (Nat.le_of_ble_eq_true rfl) ?_
    exact W.iret (v := (-1000000)) hx hb hr (fun t ht hW => ⟨⟨(-1000000), (), rfl, (absurd (by decide) k_2), trivial⟩, hS.F ht⟩) hS.2.2 dX10_relationOf_16
  · refine lv_if_eq (tgt := 14) hx hb dX10_relationOf_4 (by decide) (fun c => absurd c (by decide)) (fun _ => ?_)
    refine lv_iload_n hx hb dX10_relationOf_7 rfl (lv_at hl 2 rfl) ?_
    have hPc := hP.sub (ws' := []) [] rfl
    have hDc := hD.sub (ws' := []) [] (by decide) rfl
    have hFc := va_free (wc := []) hD hS hA [] rfl
    refine va_calli (va_runS (As := [.int p1]) (rest := []) ⟨hx, hb, hml, hown, hts⟩ (c_X10_isSolid l dC dI cB cI cJ H.size p1) (va_cwS 1 hts gX10_relationOf_X10_isSolid rfl rfl rfl (by decide +kernel) ⟨Nat.le_of_ble_eq_true rfl, Nat.le_of_ble_eq_true rfl⟩) ⟨fun a U g mk q => by obtain ⟨q0, q1, qP, qK, qD⟩ := q; exact ⟨q0, q1, qP, va_K.moved (u := U) (U := U.calling g mk a) (Vm.Alike.refl U.vm) qK, qD⟩, fun U hU hW => ⟨rfl, by rw [hU], by rw [hU]; exact hPc, va_K.moved hW.alike hK, hDc.weaken (fun _ _ _ _ => trivial)⟩⟩ rfl rfl hl.1 rfl (lv_room (Nat.le_of_ble_eq_true rfl)) dX10_relationOf_8 ⟨Nat.le_of_ble_eq_true rfl, Nat.le_of_ble_eq_true rfl⟩) hS (fun q _ h => hFc q h) hFc (fun r_3 u t H1 locs ht hvm hw hB hz1 hk1 hS => ?_)
    have hP1 : va_P (dC, dI) vwCl [] H1 := fun k q h => by simp at h
    have hD1 : va_D (va_A [] H.size) [] := ⟨fun i j p q h => by simp at h, fun k q h => by simp at h⟩
    obtain ⟨hP, hD⟩ := va_join (wr := [(x0, .inr (10, [.ref xTape, .ref xReader, .ref xBag, .ref xBld, .ref xAng, .ref xSum, .ref xPik, .int 0, .ref xHan, .ref xIns, .ref xShr, .ref xSta, .ref xTur])), (xSum, .inr (8, [.ref sM, .ref sP, .ref sA, .int 0])), (xHan, .inr (3, [.int 0, .int 0, .int 0, .ref hH, .ref hR, .ref hT, .ref hM])), (hH, .inl (cI, 7, (.inl (fun _ => 0)))), (hT, .inl (cJ, 7, (.inr (.inl (fun _ => 0))))), (hM, .inl (cJ, 6, (.inr (.inl (fun _ => 0)))))]) (w1 := []) hP hD [] [0, 1, 2, 3, 4, 5] rfl rfl (by decide) (by decide) hk1 hFc hP1 hD1
    generalize H1 = H at hP hS ⊢
    have hP : va_P (dC, dI) vwCl [(x0, .inr (10, [.ref xTape, .ref xReader, .ref xBag, .ref xBld, .ref xAng, .ref xSum, .ref xPik, .int 0, .ref xHan, .ref xIns, .ref xShr, .ref xSta, .ref xTur])), (xSum, .inr (8, [.ref sM, .ref sP, .ref sA, .int 0])), (xHan, .inr (3, [.int 0, .int 0, .int 0, .ref hH, .ref hR, .ref hT, .ref hM])), (hH, .inl (cI, 7, (.inl (fun _ => 0)))), (hT, .inl (cJ, 7, (.inr (.inl (fun _ => 0))))), (hM, .inl (cJ, 6, (.inr (.inl (fun _ => 0)))))] H := hP
    have hD : va_D A [(x0, .inr (10, [.ref xTape, .ref xReader, .ref xBag, .ref xBld, .ref xAng, .ref xSum, .ref xPik, .int 0, .ref xHan, .ref xIns, .ref xShr, .ref xSta, .ref xTur])), (xSum, .inr (8, [.ref sM, .ref sP, .ref sA, .int 0])), (xHan, .inr (3, [.int 0, .int 0, .int 0, .ref hH, .ref hR, .ref hT, .ref hM])), (hH, .inl (cI, 7, (.inl (fun _ => 0)))), (hT, .inl (cJ, 7, (.inr (.inl (fun _ => 0))))), (hM, .inl (cJ, 6, (.inr (.inl (fun _ => 0)))))] := hD
    rcases hw with ⟨rfl, k_4⟩ | ⟨rfl, k_4⟩
    · refine lv_if_ne (tgt := 17) hx hb dX10_relationOf_11 (by decide) (fun c => absurd (by decide) c) (fun _ => ?_)
      refine lv_ldc (v := (-1000000)) hx hb hown (hts (.constant RX10 140 (-1000000)) (by decide +kernel)) dX10_relationOf_14 ?_
      refine W.widen (k := 0) (n := 0) (Nat.le_of_ble_eq_true rfl) (Nat.le_of_ble_eq_true rfl) ?_
      exact W.iret (v := (-1000000)) hx hb hr (fun t ht hW => ⟨⟨(-1000000), (), rfl, (show (-1000000 : Int32) = sp_rel 7 p1 from (by unfold sp_rel; rw [if_neg (fun h9 => k_4 h9.2)])), trivial⟩, hS.F ht⟩) hS.2.2 dX10_relationOf_16
    · refine lv_if_ne (tgt := 17) hx hb dX10_relationOf_11 (by decide) (fun _ => ?_) (fun c => absurd c (by decide))
      refine lv_aload_n hx hb dX10_relationOf_17 rfl (lv_at hl 0 rfl) ?_
      refine lv_iload_n hx hb dX10_relationOf_18 rfl (lv_at hl 1 rfl) ?_
      have hPc := hP.sub (ws' := [(x0, .inr (10, [.ref xTape, .ref xReader, .ref xBag, .ref xBld, .ref xAng, .ref xSum, .ref xPik, .int 0, .ref xHan, .ref xIns, .ref xShr, .ref xSta, .ref xTur])), (xSum, .inr (8, [.ref sM, .ref sP, .ref sA, .int 0])), (xHan, .inr (3, [.int 0, .int 0, .int 0, .ref hH, .ref hR, .ref hT, .ref hM])), (hH, .inl (cI, 7, (.inl (fun _ => 0)))), (hT, .inl (cJ, 7, (.inr (.inl (fun _ => 0))))), (hM, .inl (cJ, 6, (.inr (.inl (fun _ => 0)))))]) [0, 1, 2, 3, 4, 5] rfl
      have hDc := hD.sub (ws' := [(x0, .inr (10, [.ref xTape, .ref xReader, .ref xBag, .ref xBld, .ref xAng, .ref xSum, .ref xPik, .int 0, .ref xHan, .ref xIns, .ref xShr, .ref xSta, .ref xTur])), (xSum, .inr (8, [.ref sM, .ref sP, .ref sA, .int 0])), (xHan, .inr (3, [.int 0, .int 0, .int 0, .ref hH, .ref hR, .ref hT, .ref hM])), (hH, .inl (cI, 7, (.inl (fun _ => 0)))), (hT, .inl (cJ, 7, (.inr (.inl (fun _ => 0))))), (hM, .inl (cJ, 6, (.inr (.inl (fun _ => 0)))))]) [0, 1, 2, 3, 4, 5] (by decide) rfl
      have hFc := va_free (wc := [(x0, .inr (10, [.ref xTape, .ref xReader, .ref xBag, .ref xBld, .ref xAng, .ref xSum, .ref xPik, .int 0, .ref xHan, .ref xIns, .ref xShr, .ref xSta, .ref xTur])), (xSum, .inr (8, [.ref sM, .ref sP, .ref sA, .int 0])), (xHan, .inr (3, [.int 0, .int 0, .int 0, .ref hH, .ref hR, .ref hT, .ref hM])), (hH, .inl (cI, 7, (.inl (fun _ => 0)))), (hT, .inl (cJ, 7, (.inr (.inl (fun _ => 0))))), (hM, .inl (cJ, 6, (.inr (.inl (fun _ => 0)))))]) hD hS hA [0, 1, 2, 3, 4, 5] rfl
      refine va_callv (va_runV (As := [.int 7]) (rest := []) ⟨hx, hb, hml, hown, hts⟩ (c_X10_hangSolids_7 l dC dI cB cI cJ H.size x0 xTape xReader xBag xBld xAng xSum xPik xHan xIns xShr xSta xTur sM sP sA hH hR hT hM (fun _ => 0) (fun _ => 0)) (cwV 1 hts gX10_relationOf_X10_hangSolids rfl rfl rfl (by decide +kernel) ⟨Nat.le_of_ble_eq_true rfl, Nat.le_of_ble_eq_true rfl⟩) ⟨fun a U g mk q => by obtain ⟨q0, q1, qP, qK, qD, qN0⟩ := q; exact ⟨q0, q1, qP, va_K.moved (u := U) (U := U.calling g mk a) (Vm.Alike.refl U.vm) qK, qD, va_Nw.same rfl rfl qN0⟩, va_recv hK hP (ci := 10) (q0 := 0) rfl rfl, fun U hU hW => ⟨rfl, by rw [hU], by rw [hU]; exact hPc, va_K.moved hW.alike hK, hDc.weaken (fun _ _ _ _ => trivial), va_Nw.warmM hW hN0⟩⟩ rfl rfl hl.1 rfl (lv_room (Nat.le_of_ble_eq_true rfl)) dX10_relationOf_19 ⟨Nat.le_of_ble_eq_true rfl, Nat.le_of_ble_eq_true rfl⟩) hS (fun q _ h => hFc q h) hFc (fun u t H1 locs ht hvm hw hB hz1 hk1 hS => ?_)
      obtain ⟨hP1, hK1, hD1⟩ := hB
      rw [ht] at hP1
      obtain ⟨hP, hD⟩ := va_join (wr := []) (w1 := [(x0, .inr (10, [.ref xTape, .ref xReader, .ref xBag, .ref xBld, .ref xAng, .ref xSum, .ref xPik, .int 0, .ref xHan, .ref xIns, .ref xShr, .ref xSta, .ref xTur])), (xHan, .inr (3, [.int 0, .int 3, .int 1, .ref hH, .ref hR, .ref hT, .ref hM])), (xSum, .inr (8, [.ref sM, .ref sP, .ref sA, .int 0])), (hH, .inl (cI, 7, (.inl (upd (upd (upd (fun _ => 0) (0 : Int32).toNatClampNeg 0) (0 : Int32).toNatClampNeg 1) (0 : Int32).toNatClampNeg 2)))), (hT, .inl (cJ, 7, (.inr (.inl (vp_updL (vp_updL (vp_updL (fun _ => 0) (0 : Int32).toNatClampNeg 1) (0 : Int32).toNatClampNeg 1) (0 : Int32).toNatClampNeg 1))))), (hM, .inl (cJ, 6, (.inr (.inl (vp_updL (fun _ => 0) (0 : Int32).toNatClampNeg 1)))))]) hP hD [0, 1, 2, 3, 4, 5] [] rfl rfl (by decide) (by decide) hk1 hFc hP1 hD1
      generalize H1 = H at hP hS ⊢
      have hP : va_P (dC, dI) vwCl [(x0, .inr (10, [.ref xTape, .ref xReader, .ref xBag, .ref xBld, .ref xAng, .ref xSum, .ref xPik, .int 0, .ref xHan, .ref xIns, .ref xShr, .ref xSta, .ref xTur])), (xHan, .inr (3, [.int 0, .int 3, .int 1, .ref hH, .ref hR, .ref hT, .ref hM])), (xSum, .inr (8, [.ref sM, .ref sP, .ref sA, .int 0])), (hH, .inl (cI, 7, (.inl (upd (upd (upd (fun _ => 0) (0 : Int32).toNatClampNeg 0) (0 : Int32).toNatClampNeg 1) (0 : Int32).toNatClampNeg 2)))), (hT, .inl (cJ, 7, (.inr (.inl (vp_updL (vp_updL (vp_updL (fun _ => 0) (0 : Int32).toNatClampNeg 1) (0 : Int32).toNatClampNeg 1) (0 : Int32).toNatClampNeg 1))))), (hM, .inl (cJ, 6, (.inr (.inl (vp_updL (fun _ => 0) (0 : Int32).toNatClampNeg 1)))))] H := hP
      have hD : va_D A [(x0, .inr (10, [.ref xTape, .ref xReader, .ref xBag, .ref xBld, .ref xAng, .ref xSum, .ref xPik, .int 0, .ref xHan, .ref xIns, .ref xShr, .ref xSta, .ref xTur])), (xHan, .inr (3, [.int 0, .int 3, .int 1, .ref hH, .ref hR, .ref hT, .ref hM])), (xSum, .inr (8, [.ref sM, .ref sP, .ref sA, .int 0])), (hH, .inl (cI, 7, (.inl (upd (upd (upd (fun _ => 0) (0 : Int32).toNatClampNeg 0) (0 : Int32).toNatClampNeg 1) (0 : Int32).toNatClampNeg 2)))), (hT, .inl (cJ, 7, (.inr (.inl (vp_updL (vp_updL (vp_updL (fun _ => 0) (0 : Int32).toNatClampNeg 1) (0 : Int32).toNatClampNeg 1) (0 : Int32).toNatClampNeg 1))))), (hM, .inl (cJ, 6, (.inr (.inl (vp_updL (fun _ => 0) (0 : Int32).toNatClampNeg 1)))))] := hD
      refine lv_aload_n hx hb dX10_relationOf_22 rfl (lv_at hl 0 rfl) ?_
      refine va_get (D := (dC, dI)) (ci := 10) (v := .ref xHan) (C := RX10) (T := TX10) (N := 13) hx hb hts hiX10 hown hK hP 0 rfl rfl 8 (by decide) (hts (.fieldLink RX10 61 "ScissorsTable" "hang" "LScissorsTable$Hang;") (by decide +kernel)) (fun _ h9 => h9) rfl dX10_relationOf_23 ?_
      have hPc := hP.sub (ws' := [(xHan, .inr (3, [.int 0, .int 3, .int 1, .ref hH, .ref hR, .ref hT, .ref hM])), (hM, .inl (cJ, 6, (.inr (.inl (vp_updL (fun _ => 0) (0 : Int32).toNatClampNeg 1)))))]) [1, 5] rfl
      have hDc := hD.sub (ws' := [(xHan, .inr (3, [.int 0, .int 3, .int 1, .ref hH, .ref hR, .ref hT, .ref hM])), (hM, .inl (cJ, 6, (.inr (.inl (vp_updL (fun _ => 0) (0 : Int32).toNatClampNeg 1)))))]) [1, 5] (by decide) rfl
      have hFc := va_free (wc := [(xHan, .inr (3, [.int 0, .int 3, .int 1, .ref hH, .ref hR, .ref hT, .ref hM])), (hM, .inl (cJ, 6, (.inr (.inl (vp_updL (fun _ => 0) (0 : Int32).toNatClampNeg 1)))))]) hD hS hA [1, 5] rfl
      refine va_calli (va_runV (As := []) (rest := []) ⟨hx, hb, hml, hown, hts⟩ (c_X3_canTell_t3 l dC dI cB cI cJ H.size xHan hH hR hT hM) (cwV 0 hts gX10_relationOf_X3_canTell rfl rfl rfl (by decide +kernel) ⟨Nat.le_of_ble_eq_true rfl, Nat.le_of_ble_eq_true rfl⟩) ⟨fun a U g mk q => by obtain ⟨q0, q1, qP, qK, qD⟩ := q; exact ⟨q0, q1, qP, va_K.moved (u := U) (U := U.calling g mk a) (Vm.Alike.refl U.vm) qK, qD⟩, va_recv hK hP (ci := 3) (q0 := 1) rfl rfl, fun U hU hW => ⟨rfl, by rw [hU], by rw [hU]; exact hPc, va_K.moved hW.alike hK, hDc.weaken (fun _ _ _ _ => trivial)⟩⟩ rfl rfl hl.1 rfl (lv_room (Nat.le_of_ble_eq_true rfl)) dX10_relationOf_26 ⟨Nat.le_of_ble_eq_true rfl, Nat.le_of_ble_eq_true rfl⟩) hS (fun q _ h => hFc q h) hFc (fun r_5 u t H1 locs ht hvm hw hB hz1 hk1 hS => ?_)
      obtain ⟨hP1, hK1, hD1⟩ := hB
      rw [ht] at hP1
      obtain ⟨hP, hD⟩ := va_join (wr := [(x0, .inr (10, [.ref xTape, .ref xReader, .ref xBag, .ref xBld, .ref xAng, .ref xSum, .ref xPik, .int 0, .ref xHan, .ref xIns, .ref xShr, .ref xSta, .ref xTur])), (xSum, .inr (8, [.ref sM, .ref sP, .ref sA, .int 0])), (hH, .inl (cI, 7, (.inl (upd (upd (upd (fun _ => 0) (0 : Int32).toNatClampNeg 0) (0 : Int32).toNatClampNeg 1) (0 : Int32).toNatClampNeg 2)))), (hT, .inl (cJ, 7, (.inr (.inl (vp_updL (vp_updL (vp_updL (fun _ => 0) (0 : Int32).toNatClampNeg 1) (0 : Int32).toNatClampNeg 1) (0 : Int32).toNatClampNeg 1)))))]) (w1 := [(xHan, .inr (3, [.int 0, .int 3, .int 1, .ref hH, .ref hR, .ref hT, .ref hM])), (hM, .inl (cJ, 6, (.inr (.inl (vp_updL (fun _ => 0) (0 : Int32).toNatClampNeg 1)))))]) hP hD [1, 5] [0, 2, 3, 4] rfl rfl (by decide) (by decide) hk1 hFc hP1 hD1
      generalize H1 = H at hP hS ⊢
      have hP : va_P (dC, dI) vwCl [(x0, .inr (10, [.ref xTape, .ref xReader, .ref xBag, .ref xBld, .ref xAng, .ref xSum, .ref xPik, .int 0, .ref xHan, .ref xIns, .ref xShr, .ref xSta, .ref xTur])), (xSum, .inr (8, [.ref sM, .ref sP, .ref sA, .int 0])), (hH, .inl (cI, 7, (.inl (upd (upd (upd (fun _ => 0) (0 : Int32).toNatClampNeg 0) (0 : Int32).toNatClampNeg 1) (0 : Int32).toNatClampNeg 2)))), (hT, .inl (cJ, 7, (.inr (.inl (vp_updL (vp_updL (vp_updL (fun _ => 0) (0 : Int32).toNatClampNeg 1) (0 : Int32).toNatClampNeg 1) (0 : Int32).toNatClampNeg 1))))), (xHan, .inr (3, [.int 0, .int 3, .int 1, .ref hH, .ref hR, .ref hT, .ref hM])), (hM, .inl (cJ, 6, (.inr (.inl (vp_updL (fun _ => 0) (0 : Int32).toNatClampNeg 1)))))] H := hP
      have hD : va_D A [(x0, .inr (10, [.ref xTape, .ref xReader, .ref xBag, .ref xBld, .ref xAng, .ref xSum, .ref xPik, .int 0, .ref xHan, .ref xIns, .ref xShr, .ref xSta, .ref xTur])), (xSum, .inr (8, [.ref sM, .ref sP, .ref sA, .int 0])), (hH, .inl (cI, 7, (.inl (upd (upd (upd (fun _ => 0) (0 : Int32).toNatClampNeg 0) (0 : Int32).toNatClampNeg 1) (0 : Int32).toNatClampNeg 2)))), (hT, .inl (cJ, 7, (.inr (.inl (vp_updL (vp_updL (vp_updL (fun _ => 0) (0 : Int32).toNatClampNeg 1) (0 : Int32).toNatClampNeg 1) (0 : Int32).toNatClampNeg 1))))), (xHan, .inr (3, [.int 0, .int 3, .int 1, .ref hH, .ref hR, .ref hT, .ref hM])), (hM, .inl (cJ, 6, (.inr (.inl (vp_updL (fun _ => 0) (0 : Int32).toNatClampNeg 1)))))] := hD
      have hr_5 := hw
      obtain rfl : r_5 = 1 := hr_5
      refine lv_if_ne (tgt := 35) hx hb dX10_relationOf_29 (by decide) (fun _ => ?_) (fun c => absurd c (by decide))
      rcases nk_split4 p1 (by (try simp only [nk_lt, nk_le, nk_eq, nk_wd, nk_c0, nk_c1, nk_c2, nk_c3, nk_c4, nk_c5, nk_c6, nk_c15, nk_c16, nk_c24, nk_c47, nk_c48, nk_c600, nk_c1728, nk_m1, nk_l0, nk_l1, nk_l2, nk_l3, nk_l5, nk_l15, nk_l24, nk_l47] at k_4); omega) with rfl | rfl | rfl | rfl
      · refine lv_iload_n hx hb dX10_relationOf_35 rfl (lv_at hl 1 rfl) ?_
        refine lv_iload_n hx hb dX10_relationOf_36 rfl (lv_at hl 2 rfl) ?_
        refine lv_ishr hx hb dX10_relationOf_37 ?_
        refine lv_topi (fun x_6 ex_6 => ?_)
        obtain rfl : x_6 = 7 := ex_6.trans (by first | rfl | decide)
        refine lv_iconst (v := 1) hx hb dX10_relationOf_38 (by decide) ?_
        refine lv_iand hx hb dX10_relationOf_39 ?_
        refine lv_topi (fun x_7 ex_7 => ?_)
        obtain rfl : x_7 = 1 := ex_7.trans (by first | rfl | decide)
        refine lv_if_ne (tgt := 45) hx hb dX10_relationOf_40 (by decide) (fun _ => ?_) (fun c => absurd c (by decide))
        refine lv_aload_n hx hb dX10_relationOf_45 rfl (lv_at hl 0 rfl) ?_
        refine va_get (D := (dC, dI)) (ci := 10) (v := .ref xHan) (C := RX10) (T := TX10) (N := 13) hx hb hts hiX10 hown hK hP 0 rfl rfl 8 (by decide) (hts (.fieldLink RX10 61 "ScissorsTable" "hang" "LScissorsTable$Hang;") (by decide +kernel)) (fun _ h9 => h9) rfl dX10_relationOf_46 ?_
        refine lv_iload_n hx hb dX10_relationOf_49 rfl (lv_at hl 1 rfl) ?_
        refine lv_iconst (v := 1) hx hb dX10_relationOf_50 (by decide) ?_
        refine lv_iload_n hx hb dX10_relationOf_51 rfl (lv_at hl 2 rfl) ?_
        refine lv_ishl hx hb dX10_relationOf_52 ?_
        refine lv_topi (fun x_8 ex_8 => ?_)
        obtain rfl : x_8 = 1 := ex_8.trans (by first | rfl | decide)
        refine lv_iconst (v := 1) hx hb dX10_relationOf_53 (by decide) ?_
        refine lv_isub hx hb dX10_relationOf_54 ?_
        refine lv_topi (fun x_9 ex_9 => ?_)
        obtain rfl : x_9 = 0 := ex_9.trans (by first | rfl | decide)
        refine lv_iand hx hb dX10_relationOf_55 ?_
        refine lv_topi (fun x_10 ex_10 => ?_)
        obtain rfl : x_10 = 0 := ex_10.trans (by first | rfl | decide)
        have hPc := hP.sub (ws' := []) [] rfl
        have hDc := hD.sub (ws' := []) [] (by decide) rfl
        have hFc := va_free (wc := []) hD hS hA [] rfl
        refine va_calli (va_runS (As := [.int 0]) (rest := [.ref xHan]) ⟨hx, hb, hml, hown, hts⟩ (c_J6_bitCount_0f7a4_0 l dC dI cB cI cJ H.size ) (va_cwS 1 hts gX10_relationOf_J6_bitCount_0f7a4 rfl rfl rfl (by decide +kernel) ⟨Nat.le_of_ble_eq_true rfl, Nat.le_of_ble_eq_true rfl⟩) ⟨fun a U g mk q => by obtain ⟨q0, q1, qP, qK, qD⟩ := q; exact ⟨q0, q1, qP, va_K.moved (u := U) (U := U.calling g mk a) (Vm.Alike.refl U.vm) qK, qD⟩, fun U hU hW => ⟨rfl, by rw [hU], by rw [hU]; exact hPc, va_K.moved hW.alike hK, hDc.weaken (fun _ _ _ _ => trivial)⟩⟩ rfl rfl hl.1 rfl (lv_room (Nat.le_of_ble_eq_true rfl)) dX10_relationOf_56 ⟨Nat.le_of_ble_eq_true rfl, Nat.le_of_ble_eq_true rfl⟩) hS (fun q _ h => hFc q h) hFc (fun r_11 u t H1 locs ht hvm hw hB hz1 hk1 hS => ?_)
        have hP1 : va_P (dC, dI) vwCl [] H1 := fun k q h => by simp at h
        have hD1 : va_D (va_A [] H.size) [] := ⟨fun i j p q h => by simp at h, fun k q h => by simp at h⟩
        obtain ⟨hP, hD⟩ := va_join (wr := [(x0, .inr (10, [.ref xTape, .ref xReader, .ref xBag, .ref xBld, .ref xAng, .ref xSum, .ref xPik, .int 0, .ref xHan, .ref xIns, .ref xShr, .ref xSta, .ref xTur])), (xSum, .inr (8, [.ref sM, .ref sP, .ref sA, .int 0])), (hH, .inl (cI, 7, (.inl (upd (upd (upd (fun _ => 0) (0 : Int32).toNatClampNeg 0) (0 : Int32).toNatClampNeg 1) (0 : Int32).toNatClampNeg 2)))), (hT, .inl (cJ, 7, (.inr (.inl (vp_updL (vp_updL (vp_updL (fun _ => 0) (0 : Int32).toNatClampNeg 1) (0 : Int32).toNatClampNeg 1) (0 : Int32).toNatClampNeg 1))))), (xHan, .inr (3, [.int 0, .int 3, .int 1, .ref hH, .ref hR, .ref hT, .ref hM])), (hM, .inl (cJ, 6, (.inr (.inl (vp_updL (fun _ => 0) (0 : Int32).toNatClampNeg 1)))))]) (w1 := []) hP hD [] [0, 1, 2, 3, 4, 5] rfl rfl (by decide) (by decide) hk1 hFc hP1 hD1
        generalize H1 = H at hP hS ⊢
        have hP : va_P (dC, dI) vwCl [(x0, .inr (10, [.ref xTape, .ref xReader, .ref xBag, .ref xBld, .ref xAng, .ref xSum, .ref xPik, .int 0, .ref xHan, .ref xIns, .ref xShr, .ref xSta, .ref xTur])), (xSum, .inr (8, [.ref sM, .ref sP, .ref sA, .int 0])), (hH, .inl (cI, 7, (.inl (upd (upd (upd (fun _ => 0) (0 : Int32).toNatClampNeg 0) (0 : Int32).toNatClampNeg 1) (0 : Int32).toNatClampNeg 2)))), (hT, .inl (cJ, 7, (.inr (.inl (vp_updL (vp_updL (vp_updL (fun _ => 0) (0 : Int32).toNatClampNeg 1) (0 : Int32).toNatClampNeg 1) (0 : Int32).toNatClampNeg 1))))), (xHan, .inr (3, [.int 0, .int 3, .int 1, .ref hH, .ref hR, .ref hT, .ref hM])), (hM, .inl (cJ, 6, (.inr (.inl (vp_updL (fun _ => 0) (0 : Int32).toNatClampNeg 1)))))] H := hP
        have hD : va_D A [(x0, .inr (10, [.ref xTape, .ref xReader, .ref xBag, .ref xBld, .ref xAng, .ref xSum, .ref xPik, .int 0, .ref xHan, .ref xIns, .ref xShr, .ref xSta, .ref xTur])), (xSum, .inr (8, [.ref sM, .ref sP, .ref sA, .int 0])), (hH, .inl (cI, 7, (.inl (upd (upd (upd (fun _ => 0) (0 : Int32).toNatClampNeg 0) (0 : Int32).toNatClampNeg 1) (0 : Int32).toNatClampNeg 2)))), (hT, .inl (cJ, 7, (.inr (.inl (vp_updL (vp_updL (vp_updL (fun _ => 0) (0 : Int32).toNatClampNeg 1) (0 : Int32).toNatClampNeg 1) (0 : Int32).toNatClampNeg 1))))), (xHan, .inr (3, [.int 0, .int 3, .int 1, .ref hH, .ref hR, .ref hT, .ref hM])), (hM, .inl (cJ, 6, (.inr (.inl (vp_updL (fun _ => 0) (0 : Int32).toNatClampNeg 1)))))] := hD
        have hr_11 := hw
        obtain rfl : r_11 = 0 := hr_11
        have hPc := hP.sub (ws' := [(xHan, .inr (3, [.int 0, .int 3, .int 1, .ref hH, .ref hR, .ref hT, .ref hM])), (hM, .inl (cJ, 6, (.inr (.inl (vp_updL (fun _ => 0) (0 : Int32).toNatClampNeg 1)))))]) [4, 5] rfl
        have hDc := hD.sub (ws' := [(xHan, .inr (3, [.int 0, .int 3, .int 1, .ref hH, .ref hR, .ref hT, .ref hM])), (hM, .inl (cJ, 6, (.inr (.inl (vp_updL (fun _ => 0) (0 : Int32).toNatClampNeg 1)))))]) [4, 5] (by decide) rfl
        have hFc := va_free (wc := [(xHan, .inr (3, [.int 0, .int 3, .int 1, .ref hH, .ref hR, .ref hT, .ref hM])), (hM, .inl (cJ, 6, (.inr (.inl (vp_updL (fun _ => 0) (0 : Int32).toNatClampNeg 1)))))]) hD hS hA [4, 5] rfl
        refine va_calli (va_runV (As := [.int 0]) (rest := []) ⟨hx, hb, hml, hown, hts⟩ (c_X3_timesOf_t3_0 l dC dI cB cI cJ H.size xHan hH hR hT hM) (cwV 1 hts gX10_relationOf_X3_timesOf rfl rfl rfl (by decide +kernel) ⟨Nat.le_of_ble_eq_true rfl, Nat.le_of_ble_eq_true rfl⟩) ⟨fun a U g mk q => by obtain ⟨q0, q1, qP, qK, qD⟩ := q; exact ⟨q0, q1, qP, va_K.moved (u := U) (U := U.calling g mk a) (Vm.Alike.refl U.vm) qK, qD⟩, va_recv hK hP (ci := 3) (q0 := 4) rfl rfl, fun U hU hW => ⟨rfl, by rw [hU], by rw [hU]; exact hPc, va_K.moved hW.alike hK, hDc.weaken (fun _ _ _ _ => trivial)⟩⟩ rfl rfl hl.1 rfl (lv_room (Nat.le_of_ble_eq_true rfl)) dX10_relationOf_59 ⟨Nat.le_of_ble_eq_true rfl, Nat.le_of_ble_eq_true rfl⟩) hS (fun q _ h => hFc q h) hFc (fun r_12 u t H1 locs ht hvm hw hB hz1 hk1 hS => ?_)
        have hP1 : va_P (dC, dI) vwCl [] H1 := fun k q h => by simp at h
        have hD1 : va_D (va_A [(xHan, .inr (3, [.int 0, .int 3, .int 1, .ref hH, .ref hR, .ref hT, .ref hM])), (hM, .inl (cJ, 6, (.inr (.inl (vp_updL (fun _ => 0) (0 : Int32).toNatClampNeg 1)))))] H.size) [] := ⟨fun i j p q h => by simp at h, fun k q h => by simp at h⟩
        obtain ⟨hP, hD⟩ := va_join (wr := [(x0, .inr (10, [.ref xTape, .ref xReader, .ref xBag, .ref xBld, .ref xAng, .ref xSum, .ref xPik, .int 0, .ref xHan, .ref xIns, .ref xShr, .ref xSta, .ref xTur])), (xSum, .inr (8, [.ref sM, .ref sP, .ref sA, .int 0])), (hH, .inl (cI, 7, (.inl (upd (upd (upd (fun _ => 0) (0 : Int32).toNatClampNeg 0) (0 : Int32).toNatClampNeg 1) (0 : Int32).toNatClampNeg 2)))), (hT, .inl (cJ, 7, (.inr (.inl (vp_updL (vp_updL (vp_updL (fun _ => 0) (0 : Int32).toNatClampNeg 1) (0 : Int32).toNatClampNeg 1) (0 : Int32).toNatClampNeg 1)))))]) (w1 := []) hP hD [4, 5] [0, 1, 2, 3] rfl rfl (by decide) (by decide) hk1 hFc hP1 hD1
        generalize H1 = H at hP hS ⊢
        have hP : va_P (dC, dI) vwCl [(x0, .inr (10, [.ref xTape, .ref xReader, .ref xBag, .ref xBld, .ref xAng, .ref xSum, .ref xPik, .int 0, .ref xHan, .ref xIns, .ref xShr, .ref xSta, .ref xTur])), (xSum, .inr (8, [.ref sM, .ref sP, .ref sA, .int 0])), (hH, .inl (cI, 7, (.inl (upd (upd (upd (fun _ => 0) (0 : Int32).toNatClampNeg 0) (0 : Int32).toNatClampNeg 1) (0 : Int32).toNatClampNeg 2)))), (hT, .inl (cJ, 7, (.inr (.inl (vp_updL (vp_updL (vp_updL (fun _ => 0) (0 : Int32).toNatClampNeg 1) (0 : Int32).toNatClampNeg 1) (0 : Int32).toNatClampNeg 1)))))] H := hP
        have hD : va_D A [(x0, .inr (10, [.ref xTape, .ref xReader, .ref xBag, .ref xBld, .ref xAng, .ref xSum, .ref xPik, .int 0, .ref xHan, .ref xIns, .ref xShr, .ref xSta, .ref xTur])), (xSum, .inr (8, [.ref sM, .ref sP, .ref sA, .int 0])), (hH, .inl (cI, 7, (.inl (upd (upd (upd (fun _ => 0) (0 : Int32).toNatClampNeg 0) (0 : Int32).toNatClampNeg 1) (0 : Int32).toNatClampNeg 2)))), (hT, .inl (cJ, 7, (.inr (.inl (vp_updL (vp_updL (vp_updL (fun _ => 0) (0 : Int32).toNatClampNeg 1) (0 : Int32).toNatClampNeg 1) (0 : Int32).toNatClampNeg 1)))))] := hD
        have hr_12 := hw
        obtain rfl : r_12 = 1 := hr_12
        refine W.widen (k := 0) (n := 0) (Nat.le_of_ble_eq_true rfl) (Nat.le_of_ble_eq_true rfl) ?_
        exact W.iret (v := 1) hx hb hr (fun t ht hW => ⟨⟨1, (), rfl, (by decide), trivial⟩, hS.F ht⟩) hS.2.2 dX10_relationOf_62
      · refine lv_iload_n hx hb dX10_relationOf_35 rfl (lv_at hl 1 rfl) ?_
        refine lv_iload_n hx hb dX10_relationOf_36 rfl (lv_at hl 2 rfl) ?_
        refine lv_ishr hx hb dX10_relationOf_37 ?_
        refine lv_topi (fun x_13 ex_13 => ?_)
        obtain rfl : x_13 = 3 := ex_13.trans (by first | rfl | decide)
        refine lv_iconst (v := 1) hx hb dX10_relationOf_38 (by decide) ?_
        refine lv_iand hx hb dX10_relationOf_39 ?_
        refine lv_topi (fun x_14 ex_14 => ?_)
        obtain rfl : x_14 = 1 := ex_14.trans (by first | rfl | decide)
        refine lv_if_ne (tgt := 45) hx hb dX10_relationOf_40 (by decide) (fun _ => ?_) (fun c => absurd c (by decide))
        refine lv_aload_n hx hb dX10_relationOf_45 rfl (lv_at hl 0 rfl) ?_
        refine va_get (D := (dC, dI)) (ci := 10) (v := .ref xHan) (C := RX10) (T := TX10) (N := 13) hx hb hts hiX10 hown hK hP 0 rfl rfl 8 (by decide) (hts (.fieldLink RX10 61 "ScissorsTable" "hang" "LScissorsTable$Hang;") (by decide +kernel)) (fun _ h9 => h9) rfl dX10_relationOf_46 ?_
        refine lv_iload_n hx hb dX10_relationOf_49 rfl (lv_at hl 1 rfl) ?_
        refine lv_iconst (v := 1) hx hb dX10_relationOf_50 (by decide) ?_
        refine lv_iload_n hx hb dX10_relationOf_51 rfl (lv_at hl 2 rfl) ?_
        refine lv_ishl hx hb dX10_relationOf_52 ?_
        refine lv_topi (fun x_15 ex_15 => ?_)
        obtain rfl : x_15 = 2 := ex_15.trans (by first | rfl | decide)
        refine lv_iconst (v := 1) hx hb dX10_relationOf_53 (by decide) ?_
        refine lv_isub hx hb dX10_relationOf_54 ?_
        refine lv_topi (fun x_16 ex_16 => ?_)
        obtain rfl : x_16 = 1 := ex_16.trans (by first | rfl | decide)
        refine lv_iand hx hb dX10_relationOf_55 ?_
        refine lv_topi (fun x_17 ex_17 => ?_)
        obtain rfl : x_17 = 1 := ex_17.trans (by first | rfl | decide)
        have hPc := hP.sub (ws' := []) [] rfl
        have hDc := hD.sub (ws' := []) [] (by decide) rfl
        have hFc := va_free (wc := []) hD hS hA [] rfl
        refine va_calli (va_runS (As := [.int 1]) (rest := [.ref xHan]) ⟨hx, hb, hml, hown, hts⟩ (c_J6_bitCount_0f7a4_1 l dC dI cB cI cJ H.size ) (va_cwS 1 hts gX10_relationOf_J6_bitCount_0f7a4 rfl rfl rfl (by decide +kernel) ⟨Nat.le_of_ble_eq_true rfl, Nat.le_of_ble_eq_true rfl⟩) ⟨fun a U g mk q => by obtain ⟨q0, q1, qP, qK, qD⟩ := q; exact ⟨q0, q1, qP, va_K.moved (u := U) (U := U.calling g mk a) (Vm.Alike.refl U.vm) qK, qD⟩, fun U hU hW => ⟨rfl, by rw [hU], by rw [hU]; exact hPc, va_K.moved hW.alike hK, hDc.weaken (fun _ _ _ _ => trivial)⟩⟩ rfl rfl hl.1 rfl (lv_room (Nat.le_of_ble_eq_true rfl)) dX10_relationOf_56 ⟨Nat.le_of_ble_eq_true rfl, Nat.le_of_ble_eq_true rfl⟩) hS (fun q _ h => hFc q h) hFc (fun r_18 u t H1 locs ht hvm hw hB hz1 hk1 hS => ?_)
        have hP1 : va_P (dC, dI) vwCl [] H1 := fun k q h => by simp at h
        have hD1 : va_D (va_A [] H.size) [] := ⟨fun i j p q h => by simp at h, fun k q h => by simp at h⟩
        obtain ⟨hP, hD⟩ := va_join (wr := [(x0, .inr (10, [.ref xTape, .ref xReader, .ref xBag, .ref xBld, .ref xAng, .ref xSum, .ref xPik, .int 0, .ref xHan, .ref xIns, .ref xShr, .ref xSta, .ref xTur])), (xSum, .inr (8, [.ref sM, .ref sP, .ref sA, .int 0])), (hH, .inl (cI, 7, (.inl (upd (upd (upd (fun _ => 0) (0 : Int32).toNatClampNeg 0) (0 : Int32).toNatClampNeg 1) (0 : Int32).toNatClampNeg 2)))), (hT, .inl (cJ, 7, (.inr (.inl (vp_updL (vp_updL (vp_updL (fun _ => 0) (0 : Int32).toNatClampNeg 1) (0 : Int32).toNatClampNeg 1) (0 : Int32).toNatClampNeg 1))))), (xHan, .inr (3, [.int 0, .int 3, .int 1, .ref hH, .ref hR, .ref hT, .ref hM])), (hM, .inl (cJ, 6, (.inr (.inl (vp_updL (fun _ => 0) (0 : Int32).toNatClampNeg 1)))))]) (w1 := []) hP hD [] [0, 1, 2, 3, 4, 5] rfl rfl (by decide) (by decide) hk1 hFc hP1 hD1
        generalize H1 = H at hP hS ⊢
        have hP : va_P (dC, dI) vwCl [(x0, .inr (10, [.ref xTape, .ref xReader, .ref xBag, .ref xBld, .ref xAng, .ref xSum, .ref xPik, .int 0, .ref xHan, .ref xIns, .ref xShr, .ref xSta, .ref xTur])), (xSum, .inr (8, [.ref sM, .ref sP, .ref sA, .int 0])), (hH, .inl (cI, 7, (.inl (upd (upd (upd (fun _ => 0) (0 : Int32).toNatClampNeg 0) (0 : Int32).toNatClampNeg 1) (0 : Int32).toNatClampNeg 2)))), (hT, .inl (cJ, 7, (.inr (.inl (vp_updL (vp_updL (vp_updL (fun _ => 0) (0 : Int32).toNatClampNeg 1) (0 : Int32).toNatClampNeg 1) (0 : Int32).toNatClampNeg 1))))), (xHan, .inr (3, [.int 0, .int 3, .int 1, .ref hH, .ref hR, .ref hT, .ref hM])), (hM, .inl (cJ, 6, (.inr (.inl (vp_updL (fun _ => 0) (0 : Int32).toNatClampNeg 1)))))] H := hP
        have hD : va_D A [(x0, .inr (10, [.ref xTape, .ref xReader, .ref xBag, .ref xBld, .ref xAng, .ref xSum, .ref xPik, .int 0, .ref xHan, .ref xIns, .ref xShr, .ref xSta, .ref xTur])), (xSum, .inr (8, [.ref sM, .ref sP, .ref sA, .int 0])), (hH, .inl (cI, 7, (.inl (upd (upd (upd (fun _ => 0) (0 : Int32).toNatClampNeg 0) (0 : Int32).toNatClampNeg 1) (0 : Int32).toNatClampNeg 2)))), (hT, .inl (cJ, 7, (.inr (.inl (vp_updL (vp_updL (vp_updL (fun _ => 0) (0 : Int32).toNatClampNeg 1) (0 : Int32).toNatClampNeg 1) (0 : Int32).toNatClampNeg 1))))), (xHan, .inr (3, [.int 0, .int 3, .int 1, .ref hH, .ref hR, .ref hT, .ref hM])), (hM, .inl (cJ, 6, (.inr (.inl (vp_updL (fun _ => 0) (0 : Int32).toNatClampNeg 1)))))] := hD
        have hr_18 := hw
        obtain rfl : r_18 = 1 := hr_18
        have hPc := hP.sub (ws' := [(xHan, .inr (3, [.int 0, .int 3, .int 1, .ref hH, .ref hR, .ref hT, .ref hM])), (hM, .inl (cJ, 6, (.inr (.inl (vp_updL (fun _ => 0) (0 : Int32).toNatClampNeg 1)))))]) [4, 5] rfl
        have hDc := hD.sub (ws' := [(xHan, .inr (3, [.int 0, .int 3, .int 1, .ref hH, .ref hR, .ref hT, .ref hM])), (hM, .inl (cJ, 6, (.inr (.inl (vp_updL (fun _ => 0) (0 : Int32).toNatClampNeg 1)))))]) [4, 5] (by decide) rfl
        have hFc := va_free (wc := [(xHan, .inr (3, [.int 0, .int 3, .int 1, .ref hH, .ref hR, .ref hT, .ref hM])), (hM, .inl (cJ, 6, (.inr (.inl (vp_updL (fun _ => 0) (0 : Int32).toNatClampNeg 1)))))]) hD hS hA [4, 5] rfl
        refine va_calli (va_runV (As := [.int 1]) (rest := []) ⟨hx, hb, hml, hown, hts⟩ (c_X3_timesOf_t3_1 l dC dI cB cI cJ H.size xHan hH hR hT hM) (cwV 1 hts gX10_relationOf_X3_timesOf rfl rfl rfl (by decide +kernel) ⟨Nat.le_of_ble_eq_true rfl, Nat.le_of_ble_eq_true rfl⟩) ⟨fun a U g mk q => by obtain ⟨q0, q1, qP, qK, qD⟩ := q; exact ⟨q0, q1, qP, va_K.moved (u := U) (U := U.calling g mk a) (Vm.Alike.refl U.vm) qK, qD⟩, va_recv hK hP (ci := 3) (q0 := 4) rfl rfl, fun U hU hW => ⟨rfl, by rw [hU], by rw [hU]; exact hPc, va_K.moved hW.alike hK, hDc.weaken (fun _ _ _ _ => trivial)⟩⟩ rfl rfl hl.1 rfl (lv_room (Nat.le_of_ble_eq_true rfl)) dX10_relationOf_59 ⟨Nat.le_of_ble_eq_true rfl, Nat.le_of_ble_eq_true rfl⟩) hS (fun q _ h => hFc q h) hFc (fun r_19 u t H1 locs ht hvm hw hB hz1 hk1 hS => ?_)
        have hP1 : va_P (dC, dI) vwCl [] H1 := fun k q h => by simp at h
        have hD1 : va_D (va_A [(xHan, .inr (3, [.int 0, .int 3, .int 1, .ref hH, .ref hR, .ref hT, .ref hM])), (hM, .inl (cJ, 6, (.inr (.inl (vp_updL (fun _ => 0) (0 : Int32).toNatClampNeg 1)))))] H.size) [] := ⟨fun i j p q h => by simp at h, fun k q h => by simp at h⟩
        obtain ⟨hP, hD⟩ := va_join (wr := [(x0, .inr (10, [.ref xTape, .ref xReader, .ref xBag, .ref xBld, .ref xAng, .ref xSum, .ref xPik, .int 0, .ref xHan, .ref xIns, .ref xShr, .ref xSta, .ref xTur])), (xSum, .inr (8, [.ref sM, .ref sP, .ref sA, .int 0])), (hH, .inl (cI, 7, (.inl (upd (upd (upd (fun _ => 0) (0 : Int32).toNatClampNeg 0) (0 : Int32).toNatClampNeg 1) (0 : Int32).toNatClampNeg 2)))), (hT, .inl (cJ, 7, (.inr (.inl (vp_updL (vp_updL (vp_updL (fun _ => 0) (0 : Int32).toNatClampNeg 1) (0 : Int32).toNatClampNeg 1) (0 : Int32).toNatClampNeg 1)))))]) (w1 := []) hP hD [4, 5] [0, 1, 2, 3] rfl rfl (by decide) (by decide) hk1 hFc hP1 hD1
        generalize H1 = H at hP hS ⊢
        have hP : va_P (dC, dI) vwCl [(x0, .inr (10, [.ref xTape, .ref xReader, .ref xBag, .ref xBld, .ref xAng, .ref xSum, .ref xPik, .int 0, .ref xHan, .ref xIns, .ref xShr, .ref xSta, .ref xTur])), (xSum, .inr (8, [.ref sM, .ref sP, .ref sA, .int 0])), (hH, .inl (cI, 7, (.inl (upd (upd (upd (fun _ => 0) (0 : Int32).toNatClampNeg 0) (0 : Int32).toNatClampNeg 1) (0 : Int32).toNatClampNeg 2)))), (hT, .inl (cJ, 7, (.inr (.inl (vp_updL (vp_updL (vp_updL (fun _ => 0) (0 : Int32).toNatClampNeg 1) (0 : Int32).toNatClampNeg 1) (0 : Int32).toNatClampNeg 1)))))] H := hP
        have hD : va_D A [(x0, .inr (10, [.ref xTape, .ref xReader, .ref xBag, .ref xBld, .ref xAng, .ref xSum, .ref xPik, .int 0, .ref xHan, .ref xIns, .ref xShr, .ref xSta, .ref xTur])), (xSum, .inr (8, [.ref sM, .ref sP, .ref sA, .int 0])), (hH, .inl (cI, 7, (.inl (upd (upd (upd (fun _ => 0) (0 : Int32).toNatClampNeg 0) (0 : Int32).toNatClampNeg 1) (0 : Int32).toNatClampNeg 2)))), (hT, .inl (cJ, 7, (.inr (.inl (vp_updL (vp_updL (vp_updL (fun _ => 0) (0 : Int32).toNatClampNeg 1) (0 : Int32).toNatClampNeg 1) (0 : Int32).toNatClampNeg 1)))))] := hD
        have hr_19 := hw
        obtain rfl : r_19 = 0 := hr_19
        refine W.widen (k := 0) (n := 0) (Nat.le_of_ble_eq_true rfl) (Nat.le_of_ble_eq_true rfl) ?_
        exact W.iret (v := 0) hx hb hr (fun t ht hW => ⟨⟨0, (), rfl, (by decide), trivial⟩, hS.F ht⟩) hS.2.2 dX10_relationOf_62
      · refine lv_iload_n hx hb dX10_relationOf_35 rfl (lv_at hl 1 rfl) ?_
        refine lv_iload_n hx hb dX10_relationOf_36 rfl (lv_at hl 2 rfl) ?_
        refine lv_ishr hx hb dX10_relationOf_37 ?_
        refine lv_topi (fun x_20 ex_20 => ?_)
        obtain rfl : x_20 = 1 := ex_20.trans (by first | rfl | decide)
        refine lv_iconst (v := 1) hx hb dX10_relationOf_38 (by decide) ?_
        refine lv_iand hx hb dX10_relationOf_39 ?_
        refine lv_topi (fun x_21 ex_21 => ?_)
        obtain rfl : x_21 = 1 := ex_21.trans (by first | rfl | decide)
        refine lv_if_ne (tgt := 45) hx hb dX10_relationOf_40 (by decide) (fun _ => ?_) (fun c => absurd c (by decide))
        refine lv_aload_n hx hb dX10_relationOf_45 rfl (lv_at hl 0 rfl) ?_
        refine va_get (D := (dC, dI)) (ci := 10) (v := .ref xHan) (C := RX10) (T := TX10) (N := 13) hx hb hts hiX10 hown hK hP 0 rfl rfl 8 (by decide) (hts (.fieldLink RX10 61 "ScissorsTable" "hang" "LScissorsTable$Hang;") (by decide +kernel)) (fun _ h9 => h9) rfl dX10_relationOf_46 ?_
        refine lv_iload_n hx hb dX10_relationOf_49 rfl (lv_at hl 1 rfl) ?_
        refine lv_iconst (v := 1) hx hb dX10_relationOf_50 (by decide) ?_
        refine lv_iload_n hx hb dX10_relationOf_51 rfl (lv_at hl 2 rfl) ?_
        refine lv_ishl hx hb dX10_relationOf_52 ?_
        refine lv_topi (fun x_22 ex_22 => ?_)
        obtain rfl : x_22 = 4 := ex_22.trans (by first | rfl | decide)
        refine lv_iconst (v := 1) hx hb dX10_relationOf_53 (by decide) ?_
        refine lv_isub hx hb dX10_relationOf_54 ?_
        refine lv_topi (fun x_23 ex_23 => ?_)
        obtain rfl : x_23 = 3 := ex_23.trans (by first | rfl | decide)
        refine lv_iand hx hb dX10_relationOf_55 ?_
        refine lv_topi (fun x_24 ex_24 => ?_)
        obtain rfl : x_24 = 3 := ex_24.trans (by first | rfl | decide)
        have hPc := hP.sub (ws' := []) [] rfl
        have hDc := hD.sub (ws' := []) [] (by decide) rfl
        have hFc := va_free (wc := []) hD hS hA [] rfl
        refine va_calli (va_runS (As := [.int 3]) (rest := [.ref xHan]) ⟨hx, hb, hml, hown, hts⟩ (c_J6_bitCount_0f7a4_3 l dC dI cB cI cJ H.size ) (va_cwS 1 hts gX10_relationOf_J6_bitCount_0f7a4 rfl rfl rfl (by decide +kernel) ⟨Nat.le_of_ble_eq_true rfl, Nat.le_of_ble_eq_true rfl⟩) ⟨fun a U g mk q => by obtain ⟨q0, q1, qP, qK, qD⟩ := q; exact ⟨q0, q1, qP, va_K.moved (u := U) (U := U.calling g mk a) (Vm.Alike.refl U.vm) qK, qD⟩, fun U hU hW => ⟨rfl, by rw [hU], by rw [hU]; exact hPc, va_K.moved hW.alike hK, hDc.weaken (fun _ _ _ _ => trivial)⟩⟩ rfl rfl hl.1 rfl (lv_room (Nat.le_of_ble_eq_true rfl)) dX10_relationOf_56 ⟨Nat.le_of_ble_eq_true rfl, Nat.le_of_ble_eq_true rfl⟩) hS (fun q _ h => hFc q h) hFc (fun r_25 u t H1 locs ht hvm hw hB hz1 hk1 hS => ?_)
        have hP1 : va_P (dC, dI) vwCl [] H1 := fun k q h => by simp at h
        have hD1 : va_D (va_A [] H.size) [] := ⟨fun i j p q h => by simp at h, fun k q h => by simp at h⟩
        obtain ⟨hP, hD⟩ := va_join (wr := [(x0, .inr (10, [.ref xTape, .ref xReader, .ref xBag, .ref xBld, .ref xAng, .ref xSum, .ref xPik, .int 0, .ref xHan, .ref xIns, .ref xShr, .ref xSta, .ref xTur])), (xSum, .inr (8, [.ref sM, .ref sP, .ref sA, .int 0])), (hH, .inl (cI, 7, (.inl (upd (upd (upd (fun _ => 0) (0 : Int32).toNatClampNeg 0) (0 : Int32).toNatClampNeg 1) (0 : Int32).toNatClampNeg 2)))), (hT, .inl (cJ, 7, (.inr (.inl (vp_updL (vp_updL (vp_updL (fun _ => 0) (0 : Int32).toNatClampNeg 1) (0 : Int32).toNatClampNeg 1) (0 : Int32).toNatClampNeg 1))))), (xHan, .inr (3, [.int 0, .int 3, .int 1, .ref hH, .ref hR, .ref hT, .ref hM])), (hM, .inl (cJ, 6, (.inr (.inl (vp_updL (fun _ => 0) (0 : Int32).toNatClampNeg 1)))))]) (w1 := []) hP hD [] [0, 1, 2, 3, 4, 5] rfl rfl (by decide) (by decide) hk1 hFc hP1 hD1
        generalize H1 = H at hP hS ⊢
        have hP : va_P (dC, dI) vwCl [(x0, .inr (10, [.ref xTape, .ref xReader, .ref xBag, .ref xBld, .ref xAng, .ref xSum, .ref xPik, .int 0, .ref xHan, .ref xIns, .ref xShr, .ref xSta, .ref xTur])), (xSum, .inr (8, [.ref sM, .ref sP, .ref sA, .int 0])), (hH, .inl (cI, 7, (.inl (upd (upd (upd (fun _ => 0) (0 : Int32).toNatClampNeg 0) (0 : Int32).toNatClampNeg 1) (0 : Int32).toNatClampNeg 2)))), (hT, .inl (cJ, 7, (.inr (.inl (vp_updL (vp_updL (vp_updL (fun _ => 0) (0 : Int32).toNatClampNeg 1) (0 : Int32).toNatClampNeg 1) (0 : Int32).toNatClampNeg 1))))), (xHan, .inr (3, [.int 0, .int 3, .int 1, .ref hH, .ref hR, .ref hT, .ref hM])), (hM, .inl (cJ, 6, (.inr (.inl (vp_updL (fun _ => 0) (0 : Int32).toNatClampNeg 1)))))] H := hP
        have hD : va_D A [(x0, .inr (10, [.ref xTape, .ref xReader, .ref xBag, .ref xBld, .ref xAng, .ref xSum, .ref xPik, .int 0, .ref xHan, .ref xIns, .ref xShr, .ref xSta, .ref xTur])), (xSum, .inr (8, [.ref sM, .ref sP, .ref sA, .int 0])), (hH, .inl (cI, 7, (.inl (upd (upd (upd (fun _ => 0) (0 : Int32).toNatClampNeg 0) (0 : Int32).toNatClampNeg 1) (0 : Int32).toNatClampNeg 2)))), (hT, .inl (cJ, 7, (.inr (.inl (vp_updL (vp_updL (vp_updL (fun _ => 0) (0 : Int32).toNatClampNeg 1) (0 : Int32).toNatClampNeg 1) (0 : Int32).toNatClampNeg 1))))), (xHan, .inr (3, [.int 0, .int 3, .int 1, .ref hH, .ref hR, .ref hT, .ref hM])), (hM, .inl (cJ, 6, (.inr (.inl (vp_updL (fun _ => 0) (0 : Int32).toNatClampNeg 1)))))] := hD
        have hr_25 := hw
        obtain rfl : r_25 = 2 := hr_25
        have hPc := hP.sub (ws' := [(xHan, .inr (3, [.int 0, .int 3, .int 1, .ref hH, .ref hR, .ref hT, .ref hM])), (hM, .inl (cJ, 6, (.inr (.inl (vp_updL (fun _ => 0) (0 : Int32).toNatClampNeg 1)))))]) [4, 5] rfl
        have hDc := hD.sub (ws' := [(xHan, .inr (3, [.int 0, .int 3, .int 1, .ref hH, .ref hR, .ref hT, .ref hM])), (hM, .inl (cJ, 6, (.inr (.inl (vp_updL (fun _ => 0) (0 : Int32).toNatClampNeg 1)))))]) [4, 5] (by decide) rfl
        have hFc := va_free (wc := [(xHan, .inr (3, [.int 0, .int 3, .int 1, .ref hH, .ref hR, .ref hT, .ref hM])), (hM, .inl (cJ, 6, (.inr (.inl (vp_updL (fun _ => 0) (0 : Int32).toNatClampNeg 1)))))]) hD hS hA [4, 5] rfl
        refine va_calli (va_runV (As := [.int 2]) (rest := []) ⟨hx, hb, hml, hown, hts⟩ (c_X3_timesOf_t3_2 l dC dI cB cI cJ H.size xHan hH hR hT hM) (cwV 1 hts gX10_relationOf_X3_timesOf rfl rfl rfl (by decide +kernel) ⟨Nat.le_of_ble_eq_true rfl, Nat.le_of_ble_eq_true rfl⟩) ⟨fun a U g mk q => by obtain ⟨q0, q1, qP, qK, qD⟩ := q; exact ⟨q0, q1, qP, va_K.moved (u := U) (U := U.calling g mk a) (Vm.Alike.refl U.vm) qK, qD⟩, va_recv hK hP (ci := 3) (q0 := 4) rfl rfl, fun U hU hW => ⟨rfl, by rw [hU], by rw [hU]; exact hPc, va_K.moved hW.alike hK, hDc.weaken (fun _ _ _ _ => trivial)⟩⟩ rfl rfl hl.1 rfl (lv_room (Nat.le_of_ble_eq_true rfl)) dX10_relationOf_59 ⟨Nat.le_of_ble_eq_true rfl, Nat.le_of_ble_eq_true rfl⟩) hS (fun q _ h => hFc q h) hFc (fun r_26 u t H1 locs ht hvm hw hB hz1 hk1 hS => ?_)
        have hP1 : va_P (dC, dI) vwCl [] H1 := fun k q h => by simp at h
        have hD1 : va_D (va_A [(xHan, .inr (3, [.int 0, .int 3, .int 1, .ref hH, .ref hR, .ref hT, .ref hM])), (hM, .inl (cJ, 6, (.inr (.inl (vp_updL (fun _ => 0) (0 : Int32).toNatClampNeg 1)))))] H.size) [] := ⟨fun i j p q h => by simp at h, fun k q h => by simp at h⟩
        obtain ⟨hP, hD⟩ := va_join (wr := [(x0, .inr (10, [.ref xTape, .ref xReader, .ref xBag, .ref xBld, .ref xAng, .ref xSum, .ref xPik, .int 0, .ref xHan, .ref xIns, .ref xShr, .ref xSta, .ref xTur])), (xSum, .inr (8, [.ref sM, .ref sP, .ref sA, .int 0])), (hH, .inl (cI, 7, (.inl (upd (upd (upd (fun _ => 0) (0 : Int32).toNatClampNeg 0) (0 : Int32).toNatClampNeg 1) (0 : Int32).toNatClampNeg 2)))), (hT, .inl (cJ, 7, (.inr (.inl (vp_updL (vp_updL (vp_updL (fun _ => 0) (0 : Int32).toNatClampNeg 1) (0 : Int32).toNatClampNeg 1) (0 : Int32).toNatClampNeg 1)))))]) (w1 := []) hP hD [4, 5] [0, 1, 2, 3] rfl rfl (by decide) (by decide) hk1 hFc hP1 hD1
        generalize H1 = H at hP hS ⊢
        have hP : va_P (dC, dI) vwCl [(x0, .inr (10, [.ref xTape, .ref xReader, .ref xBag, .ref xBld, .ref xAng, .ref xSum, .ref xPik, .int 0, .ref xHan, .ref xIns, .ref xShr, .ref xSta, .ref xTur])), (xSum, .inr (8, [.ref sM, .ref sP, .ref sA, .int 0])), (hH, .inl (cI, 7, (.inl (upd (upd (upd (fun _ => 0) (0 : Int32).toNatClampNeg 0) (0 : Int32).toNatClampNeg 1) (0 : Int32).toNatClampNeg 2)))), (hT, .inl (cJ, 7, (.inr (.inl (vp_updL (vp_updL (vp_updL (fun _ => 0) (0 : Int32).toNatClampNeg 1) (0 : Int32).toNatClampNeg 1) (0 : Int32).toNatClampNeg 1)))))] H := hP
        have hD : va_D A [(x0, .inr (10, [.ref xTape, .ref xReader, .ref xBag, .ref xBld, .ref xAng, .ref xSum, .ref xPik, .int 0, .ref xHan, .ref xIns, .ref xShr, .ref xSta, .ref xTur])), (xSum, .inr (8, [.ref sM, .ref sP, .ref sA, .int 0])), (hH, .inl (cI, 7, (.inl (upd (upd (upd (fun _ => 0) (0 : Int32).toNatClampNeg 0) (0 : Int32).toNatClampNeg 1) (0 : Int32).toNatClampNeg 2)))), (hT, .inl (cJ, 7, (.inr (.inl (vp_updL (vp_updL (vp_updL (fun _ => 0) (0 : Int32).toNatClampNeg 1) (0 : Int32).toNatClampNeg 1) (0 : Int32).toNatClampNeg 1)))))] := hD
        have hr_26 := hw
        obtain rfl : r_26 = 0 := hr_26
        refine W.widen (k := 0) (n := 0) (Nat.le_of_ble_eq_true rfl) (Nat.le_of_ble_eq_true rfl) ?_
        exact W.iret (v := 0) hx hb hr (fun t ht hW => ⟨⟨0, (), rfl, (by decide), trivial⟩, hS.F ht⟩) hS.2.2 dX10_relationOf_62
      · refine lv_iload_n hx hb dX10_relationOf_35 rfl (lv_at hl 1 rfl) ?_
        refine lv_iload_n hx hb dX10_relationOf_36 rfl (lv_at hl 2 rfl) ?_
        refine lv_ishr hx hb dX10_relationOf_37 ?_
        refine lv_topi (fun x_27 ex_27 => ?_)
        obtain rfl : x_27 = 0 := ex_27.trans (by first | rfl | decide)
        refine lv_iconst (v := 1) hx hb dX10_relationOf_38 (by decide) ?_
        refine lv_iand hx hb dX10_relationOf_39 ?_
        refine lv_topi (fun x_28 ex_28 => ?_)
        obtain rfl : x_28 = 0 := ex_28.trans (by first | rfl | decide)
        refine lv_if_ne (tgt := 45) hx hb dX10_relationOf_40 (by decide) (fun c => absurd (by decide) c) (fun _ => ?_)
        refine lv_iconst (v := 0) hx hb dX10_relationOf_43 (by decide) ?_
        refine W.widen (k := 0) (n := 0) (Nat.le_of_ble_eq_true rfl) (Nat.le_of_ble_eq_true rfl) ?_
        exact W.iret (v := 0) hx hb hr (fun t ht hW => ⟨⟨0, (), rfl, (by decide), trivial⟩, hS.F ht⟩) hS.2.2 dX10_relationOf_44
set_option maxHeartbeats 4000000 in
set_option maxRecDepth 100000 in
theorem c_X10_relationOf_8 (l : Launch) (dC : Nat → ClassId) (dI : Nat → Nat → Nat) (cB cI cJ : ClassId) (sz : Nat) (x0 xTape xReader xBag xBld xAng xSum xPik xHan xIns xShr xSta xTur sM sP sA hH hR hT hM : Nat) (p1 : Int32) : Met l yX10_relationOf wsX10_relationOf ({ frames := 12, cells := 0, slots := 0, locals := 400 }) (va_Pc [.ref x0, .int 8, .int p1] (fun U => U.heap.size = sz ∧ va_P (dC, dI) vwCl [(x0, .inr (10, [.ref xTape, .ref xReader, .ref xBag, .ref xBld, .ref xAng, .ref xSum, .ref xPik, .int 0, .ref xHan, .ref xIns, .ref xShr, .ref xSta, .ref xTur])), (xSum, .inr (8, [.ref sM, .ref sP, .ref sA, .int 0])), (xHan, .inr (3, [.int 0, .int 0, .int 0, .ref hH, .ref hR, .ref hT, .ref hM])), (hH, .inl (cI, 7, (.inl (fun _ => 0)))), (hT, .inl (cJ, 7, (.inr (.inl (fun _ => 0))))), (hM, .inl (cJ, 6, (.inr (.inl (fun _ => 0)))))] U.heap ∧ va_K (dC, dI) vwCl [(cB, .byte), (cI, .int), (cJ, .long)] U ∧ va_D (fun _ => True) [(x0, .inr (10, [.ref xTape, .ref xReader, .ref xBag, .ref xBld, .ref xAng, .ref xSum, .ref xPik, .int 0, .ref xHan, .ref xIns, .ref xShr, .ref xSta, .ref xTur])), (xSum, .inr (8, [.ref sM, .ref sP, .ref sA, .int 0])), (xHan, .inr (3, [.int 0, .int 0, .int 0, .ref hH, .ref hR, .ref hT, .ref hM])), (hH, .inl (cI, 7, (.inl (fun _ => 0)))), (hT, .inl (cJ, 7, (.inr (.inl (fun _ => 0))))), (hM, .inl (cJ, 6, (.inr (.inl (fun _ => 0)))))] ∧ va_Nw (.methodLinkNest RX3 62 yX10_gcd "ScissorsTable") U)) (va_Qi (fun (r : Int32) (_ : Unit) => r = sp_rel 8 p1) (fun _ _ => True) (va_A [(x0, .inr (10, [.ref xTape, .ref xReader, .ref xBag, .ref xBld, .ref xAng, .ref xSum, .ref xPik, .int 0, .ref xHan, .ref xIns, .ref xShr, .ref xSta, .ref xTur])), (xSum, .inr (8, [.ref sM, .ref sP, .ref sA, .int 0])), (xHan, .inr (3, [.int 0, .int 0, .int 0, .ref hH, .ref hR, .ref hT, .ref hM])), (hH, .inl (cI, 7, (.inl (fun _ => 0)))), (hT, .inl (cJ, 7, (.inr (.inl (fun _ => 0))))), (hM, .inl (cJ, 6, (.inr (.inl (fun _ => 0)))))] sz)) 0 0 (va_A [(x0, .inr (10, [.ref xTape, .ref xReader, .ref xBag, .ref xBld, .ref xAng, .ref xSum, .ref xPik, .int 0, .ref xHan, .ref xIns, .ref xShr, .ref xSta, .ref xTur])), (xSum, .inr (8, [.ref sM, .ref sP, .ref sA, .int 0])), (xHan, .inr (3, [.int 0, .int 0, .int 0, .ref hH, .ref hR, .ref hT, .ref hM])), (hH, .inl (cI, 7, (.inl (fun _ => 0)))), (hT, .inl (cJ, 7, (.inr (.inl (fun _ => 0))))), (hM, .inl (cJ, 6, (.inr (.inl (fun _ => 0)))))] sz) := by
  refine Met.ofW (cc := cX10_relationOf) (maxL := 3) (ret := (some .int)) (by decide) rfl ?_
  intro p e s m args below meth c s₁ B hml hv
  obtain ⟨rfl, hsz, hP, hK, hD0, hN0⟩ := hv
  have hx := B.exec
  have hb := B.bytes
  have hr := B.returns
  have hts := atoms_spec (ws := wsX10_relationOf) B.pre
  have hown : s.vm.findClass RX10 = some m.cls := findClass_of_methodNamed B.named
  have hlocks := B.notSynchronized
  have hiX10 : ∀ w ∈ u_ws RX10 TX10 13, w ∈ wsX10_relationOf := by decide +kernel
  subst hsz
  have hD := hD0.self (sz := s.heap.size)
  generalize hAe : va_A [(x0, .inr (10, [.ref xTape, .ref xReader, .ref xBag, .ref xBld, .ref xAng, .ref xSum, .ref xPik, .int 0, .ref xHan, .ref xIns, .ref xShr, .ref xSta, .ref xTur])), (xSum, .inr (8, [.ref sM, .ref sP, .ref sA, .int 0])), (xHan, .inr (3, [.int 0, .int 0, .int 0, .ref hH, .ref hR, .ref hT, .ref hM])), (hH, .inl (cI, 7, (.inl (fun _ => 0)))), (hT, .inl (cJ, 7, (.inr (.inl (fun _ => 0))))), (hM, .inl (cJ, 6, (.inr (.inl (fun _ => 0)))))] s.heap.size = A at hD ⊢
  have hA : ∀ q : Nat, s.heap.size ≤ q → A q := fun q h => by rw [← hAe]; exact Or.inr h
  have hS : va_S A s.heap s.heap [] := va_S.rf
  have hP : va_P (dC, dI) vwCl [(x0, .inr (10, [.ref xTape, .ref xReader, .ref xBag, .ref xBld, .ref xAng, .ref xSum, .ref xPik, .int 0, .ref xHan, .ref xIns, .ref xShr, .ref xSta, .ref xTur])), (xSum, .inr (8, [.ref sM, .ref sP, .ref sA, .int 0])), (xHan, .inr (3, [.int 0, .int 0, .int 0, .ref hH, .ref hR, .ref hT, .ref hM])), (hH, .inl (cI, 7, (.inl (fun _ => 0)))), (hT, .inl (cJ, 7, (.inr (.inl (fun _ => 0))))), (hM, .inl (cJ, 6, (.inr (.inl (fun _ => 0)))))] s.heap := hP
  have hl := lv_entry ([.ref x0, .int 8, .int p1]) (n := 3) (Nat.le_of_ble_eq_true rfl)
  rw [lg_entry_eq]
  generalize (lg_sl ([.ref x0, .int 8, .int p1]) ++ List.replicate (3 - (lg_sl ([.ref x0, .int 8, .int p1])).length) Slot.unset).toArray = ls at hl ⊢
  have hl : lv_has ls 3 [(0, .ref x0), (1, .int 8), (2, .int p1)] := hl
  refine lv_iload_n hx hb dX10_relationOf_0 rfl (lv_at hl 1 rfl) ?_
  have hPc := hP.sub (ws' := []) [] rfl
  have hDc := hD.sub (ws' := []) [] (by decide) rfl
  have hFc := va_free (wc := []) hD hS hA [] rfl
  refine va_calli (va_runS (As := [.int 8]) (rest := []) ⟨hx, hb, hml, hown, hts⟩ (c_X10_isSetOfSolids l dC dI cB cI cJ s.heap.size 8) (va_cwS 1 hts gX10_relationOf_X10_isSetOfSolids rfl rfl rfl (by decide +kernel) ⟨Nat.le_of_ble_eq_true rfl, Nat.le_of_ble_eq_true rfl⟩) ⟨fun a U g mk q => by obtain ⟨q0, q1, qP, qK, qD⟩ := q; exact ⟨q0, q1, qP, va_K.moved (u := U) (U := U.calling g mk a) (Vm.Alike.refl U.vm) qK, qD⟩, fun U hU hW => ⟨rfl, by rw [hU], by rw [hU]; exact hPc, va_K.moved hW.alike hK, hDc.weaken (fun _ _ _ _ => trivial)⟩⟩ rfl rfl hl.1 rfl (lv_room (Nat.le_of_ble_eq_true rfl)) dX10_relationOf_1 ⟨Nat.le_of_ble_eq_true rfl, Nat.le_of_ble_eq_true rfl⟩) hS (fun q _ h => hFc q h) hFc (fun r_1 u t H1 locs ht hvm hw hB hz1 hk1 hS => ?_)
  have hP1 : va_P (dC, dI) vwCl [] H1 := fun k q h => by simp at h
  have hD1 : va_D (va_A [] s.heap.size) [] := ⟨fun i j p q h => by simp at h, fun k q h => by simp at h⟩
  obtain ⟨hP, hD⟩ := va_join (wr := [(x0, .inr (10, [.ref xTape, .ref xReader, .ref xBag, .ref xBld, .ref xAng, .ref xSum, .ref xPik, .int 0, .ref xHan, .ref xIns, .ref xShr, .ref xSta, .ref xTur])), (xSum, .inr (8, [.ref sM, .ref sP, .ref sA, .int 0])), (xHan, .inr (3, [.int 0, .int 0, .int 0, .ref hH, .ref hR, .ref hT, .ref hM])), (hH, .inl (cI, 7, (.inl (fun _ => 0)))), (hT, .inl (cJ, 7, (.inr (.inl (fun _ => 0))))), (hM, .inl (cJ, 6, (.inr (.inl (fun _ => 0)))))]) (w1 := []) hP hD [] [0, 1, 2, 3, 4, 5] rfl rfl (by decide) (by decide) hk1 hFc hP1 hD1
  generalize H1 = H at hP hS ⊢
  have hP : va_P (dC, dI) vwCl [(x0, .inr (10, [.ref xTape, .ref xReader, .ref xBag, .ref xBld, .ref xAng, .ref xSum, .ref xPik, .int 0, .ref xHan, .ref xIns, .ref xShr, .ref xSta, .ref xTur])), (xSum, .inr (8, [.ref sM, .ref sP, .ref sA, .int 0])), (xHan, .inr (3, [.int 0, .int 0, .int 0, .ref hH, .ref hR, .ref hT, .ref hM])), (hH, .inl (cI, 7, (.inl (fun _ => 0)))), (hT, .inl (cJ, 7, (.inr (.inl (fun _ => 0))))), (hM, .inl (cJ, 6, (.inr (.inl (fun _ => 0)))))] H := hP
  have hD : va_D A [(x0, .inr (10, [.ref xTape, .ref xReader, .ref xBag, .ref xBld, .ref xAng, .ref xSum, .ref xPik, .int 0, .ref xHan, .ref xIns, .ref xShr, .ref xSta, .ref xTur])), (xSum, .inr (8, [.ref sM, .ref sP, .ref sA, .int 0])), (xHan, .inr (3, [.int 0, .int 0, .int 0, .ref hH, .ref hR, .ref hT, .ref hM])), (hH, .inl (cI, 7, (.inl (fun _ => 0)))), (hT, .inl (cJ, 7, (.inr (.inl (fun _ => 0))))), (hM, .inl (cJ, 6, (.inr (.inl (fun _ => 0)))))] := hD
  rcases hw with ⟨rfl, k_2⟩ | ⟨rfl, k_2⟩
  · refine lv_if_eq (tgt := 14) hx hb dX10_relationOf_4 (by decide) (fun _ => ?_) (fun c => absurd (by decide) c)
    refine lv_ldc (v := (-1000000)) hx hb hown (hts (.constant RX10 140 (-1000000)) (by decide +kernel)) dX10_relationOf_14 ?_
    refine W.widen (k := 0) (n := 0) (Nat.le_of_ble_eq_true rfl) (Nat.le_of_ble_eq_true rfl) ?_
    exact W.iret (v := (-1000000)) hx hb hr (fun t ht hW => ⟨⟨(-1000000), (), rfl, (absurd (by decide) k_2), trivial⟩, hS.F ht⟩) hS.2.2 dX10_relationOf_16
  · refine lv_if_eq (tgt := 14) hx hb dX10_relationOf_4 (by decide) (fun c => absurd c (by decide)) (fun _ => ?_)
    refine lv_iload_n hx hb dX10_relationOf_7 rfl (lv_at hl 2 rfl) ?_
    have hPc := hP.sub (ws' := []) [] rfl
    have hDc := hD.sub (ws' := []) [] (by decide) rfl
    have hFc := va_free (wc := []) hD hS hA [] rfl
    refine va_calli (va_runS (As := [.int p1]) (rest := []) ⟨hx, hb, hml, hown, hts⟩ (c_X10_isSolid l dC dI cB cI cJ H.size p1) (va_cwS 1 hts gX10_relationOf_X10_isSolid rfl rfl rfl (by decide +kernel) ⟨Nat.le_of_ble_eq_true rfl, Nat.le_of_ble_eq_true rfl⟩) ⟨fun a U g mk q => by obtain ⟨q0, q1, qP, qK, qD⟩ := q; exact ⟨q0, q1, qP, va_K.moved (u := U) (U := U.calling g mk a) (Vm.Alike.refl U.vm) qK, qD⟩, fun U hU hW => ⟨rfl, by rw [hU], by rw [hU]; exact hPc, va_K.moved hW.alike hK, hDc.weaken (fun _ _ _ _ => trivial)⟩⟩ rfl rfl hl.1 rfl (lv_room (Nat.le_of_ble_eq_true rfl)) dX10_relationOf_8 ⟨Nat.le_of_ble_eq_true rfl, Nat.le_of_ble_eq_true rfl⟩) hS (fun q _ h => hFc q h) hFc (fun r_3 u t H1 locs ht hvm hw hB hz1 hk1 hS => ?_)
    have hP1 : va_P (dC, dI) vwCl [] H1 := fun k q h => by simp at h
    have hD1 : va_D (va_A [] H.size) [] := ⟨fun i j p q h => by simp at h, fun k q h => by simp at h⟩
    obtain ⟨hP, hD⟩ := va_join (wr := [(x0, .inr (10, [.ref xTape, .ref xReader, .ref xBag, .ref xBld, .ref xAng, .ref xSum, .ref xPik, .int 0, .ref xHan, .ref xIns, .ref xShr, .ref xSta, .ref xTur])), (xSum, .inr (8, [.ref sM, .ref sP, .ref sA, .int 0])), (xHan, .inr (3, [.int 0, .int 0, .int 0, .ref hH, .ref hR, .ref hT, .ref hM])), (hH, .inl (cI, 7, (.inl (fun _ => 0)))), (hT, .inl (cJ, 7, (.inr (.inl (fun _ => 0))))), (hM, .inl (cJ, 6, (.inr (.inl (fun _ => 0)))))]) (w1 := []) hP hD [] [0, 1, 2, 3, 4, 5] rfl rfl (by decide) (by decide) hk1 hFc hP1 hD1
    generalize H1 = H at hP hS ⊢
    have hP : va_P (dC, dI) vwCl [(x0, .inr (10, [.ref xTape, .ref xReader, .ref xBag, .ref xBld, .ref xAng, .ref xSum, .ref xPik, .int 0, .ref xHan, .ref xIns, .ref xShr, .ref xSta, .ref xTur])), (xSum, .inr (8, [.ref sM, .ref sP, .ref sA, .int 0])), (xHan, .inr (3, [.int 0, .int 0, .int 0, .ref hH, .ref hR, .ref hT, .ref hM])), (hH, .inl (cI, 7, (.inl (fun _ => 0)))), (hT, .inl (cJ, 7, (.inr (.inl (fun _ => 0))))), (hM, .inl (cJ, 6, (.inr (.inl (fun _ => 0)))))] H := hP
    have hD : va_D A [(x0, .inr (10, [.ref xTape, .ref xReader, .ref xBag, .ref xBld, .ref xAng, .ref xSum, .ref xPik, .int 0, .ref xHan, .ref xIns, .ref xShr, .ref xSta, .ref xTur])), (xSum, .inr (8, [.ref sM, .ref sP, .ref sA, .int 0])), (xHan, .inr (3, [.int 0, .int 0, .int 0, .ref hH, .ref hR, .ref hT, .ref hM])), (hH, .inl (cI, 7, (.inl (fun _ => 0)))), (hT, .inl (cJ, 7, (.inr (.inl (fun _ => 0))))), (hM, .inl (cJ, 6, (.inr (.inl (fun _ => 0)))))] := hD
    rcases hw with ⟨rfl, k_4⟩ | ⟨rfl, k_4⟩
    · refine lv_if_ne (tgt := 17) hx hb dX10_relationOf_11 (by decide) (fun c => absurd (by decide) c) (fun _ => ?_)
      refine lv_ldc (v := (-1000000)) hx hb hown (hts (.constant RX10 140 (-1000000)) (by decide +kernel)) dX10_relationOf_14 ?_
      refine W.widen (k := 0) (n := 0) (Nat.le_of_ble_eq_true rfl) (Nat.le_of_ble_eq_true rfl) ?_
      exact W.iret (v := (-1000000)) hx hb hr (fun t ht hW => ⟨⟨(-1000000), (), rfl, (show (-1000000 : Int32) = sp_rel 8 p1 from (by unfold sp_rel; rw [if_neg (fun h9 => k_4 h9.2)])), trivial⟩, hS.F ht⟩) hS.2.2 dX10_relationOf_16
    · refine lv_if_ne (tgt := 17) hx hb dX10_relationOf_11 (by decide) (fun _ => ?_) (fun c => absurd c (by decide))
      refine lv_aload_n hx hb dX10_relationOf_17 rfl (lv_at hl 0 rfl) ?_
      refine lv_iload_n hx hb dX10_relationOf_18 rfl (lv_at hl 1 rfl) ?_
      have hPc := hP.sub (ws' := [(x0, .inr (10, [.ref xTape, .ref xReader, .ref xBag, .ref xBld, .ref xAng, .ref xSum, .ref xPik, .int 0, .ref xHan, .ref xIns, .ref xShr, .ref xSta, .ref xTur])), (xSum, .inr (8, [.ref sM, .ref sP, .ref sA, .int 0])), (xHan, .inr (3, [.int 0, .int 0, .int 0, .ref hH, .ref hR, .ref hT, .ref hM])), (hH, .inl (cI, 7, (.inl (fun _ => 0)))), (hT, .inl (cJ, 7, (.inr (.inl (fun _ => 0))))), (hM, .inl (cJ, 6, (.inr (.inl (fun _ => 0)))))]) [0, 1, 2, 3, 4, 5] rfl
      have hDc := hD.sub (ws' := [(x0, .inr (10, [.ref xTape, .ref xReader, .ref xBag, .ref xBld, .ref xAng, .ref xSum, .ref xPik, .int 0, .ref xHan, .ref xIns, .ref xShr, .ref xSta, .ref xTur])), (xSum, .inr (8, [.ref sM, .ref sP, .ref sA, .int 0])), (xHan, .inr (3, [.int 0, .int 0, .int 0, .ref hH, .ref hR, .ref hT, .ref hM])), (hH, .inl (cI, 7, (.inl (fun _ => 0)))), (hT, .inl (cJ, 7, (.inr (.inl (fun _ => 0))))), (hM, .inl (cJ, 6, (.inr (.inl (fun _ => 0)))))]) [0, 1, 2, 3, 4, 5] (by decide) rfl
      have hFc := va_free (wc := [(x0, .inr (10, [.ref xTape, .ref xReader, .ref xBag, .ref xBld, .ref xAng, .ref xSum, .ref xPik, .int 0, .ref xHan, .ref xIns, .ref xShr, .ref xSta, .ref xTur])), (xSum, .inr (8, [.ref sM, .ref sP, .ref sA, .int 0])), (xHan, .inr (3, [.int 0, .int 0, .int 0, .ref hH, .ref hR, .ref hT, .ref hM])), (hH, .inl (cI, 7, (.inl (fun _ => 0)))), (hT, .inl (cJ, 7, (.inr (.inl (fun _ => 0))))), (hM, .inl (cJ, 6, (.inr (.inl (fun _ => 0)))))]) hD hS hA [0, 1, 2, 3, 4, 5] rfl
      refine va_callv (va_runV (As := [.int 8]) (rest := []) ⟨hx, hb, hml, hown, hts⟩ (c_X10_hangSolids_8 l dC dI cB cI cJ H.size x0 xTape xReader xBag xBld xAng xSum xPik xHan xIns xShr xSta xTur sM sP sA hH hR hT hM (fun _ => 0) (fun _ => 0)) (cwV 1 hts gX10_relationOf_X10_hangSolids rfl rfl rfl (by decide +kernel) ⟨Nat.le_of_ble_eq_true rfl, Nat.le_of_ble_eq_true rfl⟩) ⟨fun a U g mk q => by obtain ⟨q0, q1, qP, qK, qD, qN0⟩ := q; exact ⟨q0, q1, qP, va_K.moved (u := U) (U := U.calling g mk a) (Vm.Alike.refl U.vm) qK, qD, va_Nw.same rfl rfl qN0⟩, va_recv hK hP (ci := 10) (q0 := 0) rfl rfl, fun U hU hW => ⟨rfl, by rw [hU], by rw [hU]; exact hPc, va_K.moved hW.alike hK, hDc.weaken (fun _ _ _ _ => trivial), va_Nw.warmM hW hN0⟩⟩ rfl rfl hl.1 rfl (lv_room (Nat.le_of_ble_eq_true rfl)) dX10_relationOf_19 ⟨Nat.le_of_ble_eq_true rfl, Nat.le_of_ble_eq_true rfl⟩) hS (fun q _ h => hFc q h) hFc (fun u t H1 locs ht hvm hw hB hz1 hk1 hS => ?_)
      obtain ⟨hP1, hK1, hD1⟩ := hB
      rw [ht] at hP1
      obtain ⟨hP, hD⟩ := va_join (wr := []) (w1 := [(x0, .inr (10, [.ref xTape, .ref xReader, .ref xBag, .ref xBld, .ref xAng, .ref xSum, .ref xPik, .int 0, .ref xHan, .ref xIns, .ref xShr, .ref xSta, .ref xTur])), (xHan, .inr (3, [.int 0, .int 1, .int 1, .ref hH, .ref hR, .ref hT, .ref hM])), (xSum, .inr (8, [.ref sM, .ref sP, .ref sA, .int 0])), (hH, .inl (cI, 7, (.inl (upd (fun _ => 0) (0 : Int32).toNatClampNeg 3)))), (hT, .inl (cJ, 7, (.inr (.inl (vp_updL (fun _ => 0) (0 : Int32).toNatClampNeg 1))))), (hM, .inl (cJ, 6, (.inr (.inl (vp_updL (fun _ => 0) (0 : Int32).toNatClampNeg 1)))))]) hP hD [0, 1, 2, 3, 4, 5] [] rfl rfl (by decide) (by decide) hk1 hFc hP1 hD1
      generalize H1 = H at hP hS ⊢
      have hP : va_P (dC, dI) vwCl [(x0, .inr (10, [.ref xTape, .ref xReader, .ref xBag, .ref xBld, .ref xAng, .ref xSum, .ref xPik, .int 0, .ref xHan, .ref xIns, .ref xShr, .ref xSta, .ref xTur])), (xHan, .inr (3, [.int 0, .int 1, .int 1, .ref hH, .ref hR, .ref hT, .ref hM])), (xSum, .inr (8, [.ref sM, .ref sP, .ref sA, .int 0])), (hH, .inl (cI, 7, (.inl (upd (fun _ => 0) (0 : Int32).toNatClampNeg 3)))), (hT, .inl (cJ, 7, (.inr (.inl (vp_updL (fun _ => 0) (0 : Int32).toNatClampNeg 1))))), (hM, .inl (cJ, 6, (.inr (.inl (vp_updL (fun _ => 0) (0 : Int32).toNatClampNeg 1)))))] H := hP
      have hD : va_D A [(x0, .inr (10, [.ref xTape, .ref xReader, .ref xBag, .ref xBld, .ref xAng, .ref xSum, .ref xPik, .int 0, .ref xHan, .ref xIns, .ref xShr, .ref xSta, .ref xTur])), (xHan, .inr (3, [.int 0, .int 1, .int 1, .ref hH, .ref hR, .ref hT, .ref hM])), (xSum, .inr (8, [.ref sM, .ref sP, .ref sA, .int 0])), (hH, .inl (cI, 7, (.inl (upd (fun _ => 0) (0 : Int32).toNatClampNeg 3)))), (hT, .inl (cJ, 7, (.inr (.inl (vp_updL (fun _ => 0) (0 : Int32).toNatClampNeg 1))))), (hM, .inl (cJ, 6, (.inr (.inl (vp_updL (fun _ => 0) (0 : Int32).toNatClampNeg 1)))))] := hD
      refine lv_aload_n hx hb dX10_relationOf_22 rfl (lv_at hl 0 rfl) ?_
      refine va_get (D := (dC, dI)) (ci := 10) (v := .ref xHan) (C := RX10) (T := TX10) (N := 13) hx hb hts hiX10 hown hK hP 0 rfl rfl 8 (by decide) (hts (.fieldLink RX10 61 "ScissorsTable" "hang" "LScissorsTable$Hang;") (by decide +kernel)) (fun _ h9 => h9) rfl dX10_relationOf_23 ?_
      have hPc := hP.sub (ws' := [(xHan, .inr (3, [.int 0, .int 1, .int 1, .ref hH, .ref hR, .ref hT, .ref hM])), (hM, .inl (cJ, 6, (.inr (.inl (vp_updL (fun _ => 0) (0 : Int32).toNatClampNeg 1)))))]) [1, 5] rfl
      have hDc := hD.sub (ws' := [(xHan, .inr (3, [.int 0, .int 1, .int 1, .ref hH, .ref hR, .ref hT, .ref hM])), (hM, .inl (cJ, 6, (.inr (.inl (vp_updL (fun _ => 0) (0 : Int32).toNatClampNeg 1)))))]) [1, 5] (by decide) rfl
      have hFc := va_free (wc := [(xHan, .inr (3, [.int 0, .int 1, .int 1, .ref hH, .ref hR, .ref hT, .ref hM])), (hM, .inl (cJ, 6, (.inr (.inl (vp_updL (fun _ => 0) (0 : Int32).toNatClampNeg 1)))))]) hD hS hA [1, 5] rfl
      refine va_calli (va_runV (As := []) (rest := []) ⟨hx, hb, hml, hown, hts⟩ (c_X3_canTell_t1 l dC dI cB cI cJ H.size xHan hH hR hT hM) (cwV 0 hts gX10_relationOf_X3_canTell rfl rfl rfl (by decide +kernel) ⟨Nat.le_of_ble_eq_true rfl, Nat.le_of_ble_eq_true rfl⟩) ⟨fun a U g mk q => by obtain ⟨q0, q1, qP, qK, qD⟩ := q; exact ⟨q0, q1, qP, va_K.moved (u := U) (U := U.calling g mk a) (Vm.Alike.refl U.vm) qK, qD⟩, va_recv hK hP (ci := 3) (q0 := 1) rfl rfl, fun U hU hW => ⟨rfl, by rw [hU], by rw [hU]; exact hPc, va_K.moved hW.alike hK, hDc.weaken (fun _ _ _ _ => trivial)⟩⟩ rfl rfl hl.1 rfl (lv_room (Nat.le_of_ble_eq_true rfl)) dX10_relationOf_26 ⟨Nat.le_of_ble_eq_true rfl, Nat.le_of_ble_eq_true rfl⟩) hS (fun q _ h => hFc q h) hFc (fun r_5 u t H1 locs ht hvm hw hB hz1 hk1 hS => ?_)
      obtain ⟨hP1, hK1, hD1⟩ := hB
      rw [ht] at hP1
      obtain ⟨hP, hD⟩ := va_join (wr := [(x0, .inr (10, [.ref xTape, .ref xReader, .ref xBag, .ref xBld, .ref xAng, .ref xSum, .ref xPik, .int 0, .ref xHan, .ref xIns, .ref xShr, .ref xSta, .ref xTur])), (xSum, .inr (8, [.ref sM, .ref sP, .ref sA, .int 0])), (hH, .inl (cI, 7, (.inl (upd (fun _ => 0) (0 : Int32).toNatClampNeg 3)))), (hT, .inl (cJ, 7, (.inr (.inl (vp_updL (fun _ => 0) (0 : Int32).toNatClampNeg 1)))))]) (w1 := [(xHan, .inr (3, [.int 0, .int 1, .int 1, .ref hH, .ref hR, .ref hT, .ref hM])), (hM, .inl (cJ, 6, (.inr (.inl (vp_updL (fun _ => 0) (0 : Int32).toNatClampNeg 1)))))]) hP hD [1, 5] [0, 2, 3, 4] rfl rfl (by decide) (by decide) hk1 hFc hP1 hD1
      generalize H1 = H at hP hS ⊢
      have hP : va_P (dC, dI) vwCl [(x0, .inr (10, [.ref xTape, .ref xReader, .ref xBag, .ref xBld, .ref xAng, .ref xSum, .ref xPik, .int 0, .ref xHan, .ref xIns, .ref xShr, .ref xSta, .ref xTur])), (xSum, .inr (8, [.ref sM, .ref sP, .ref sA, .int 0])), (hH, .inl (cI, 7, (.inl (upd (fun _ => 0) (0 : Int32).toNatClampNeg 3)))), (hT, .inl (cJ, 7, (.inr (.inl (vp_updL (fun _ => 0) (0 : Int32).toNatClampNeg 1))))), (xHan, .inr (3, [.int 0, .int 1, .int 1, .ref hH, .ref hR, .ref hT, .ref hM])), (hM, .inl (cJ, 6, (.inr (.inl (vp_updL (fun _ => 0) (0 : Int32).toNatClampNeg 1)))))] H := hP
      have hD : va_D A [(x0, .inr (10, [.ref xTape, .ref xReader, .ref xBag, .ref xBld, .ref xAng, .ref xSum, .ref xPik, .int 0, .ref xHan, .ref xIns, .ref xShr, .ref xSta, .ref xTur])), (xSum, .inr (8, [.ref sM, .ref sP, .ref sA, .int 0])), (hH, .inl (cI, 7, (.inl (upd (fun _ => 0) (0 : Int32).toNatClampNeg 3)))), (hT, .inl (cJ, 7, (.inr (.inl (vp_updL (fun _ => 0) (0 : Int32).toNatClampNeg 1))))), (xHan, .inr (3, [.int 0, .int 1, .int 1, .ref hH, .ref hR, .ref hT, .ref hM])), (hM, .inl (cJ, 6, (.inr (.inl (vp_updL (fun _ => 0) (0 : Int32).toNatClampNeg 1)))))] := hD
      have hr_5 := hw
      obtain rfl : r_5 = 1 := hr_5
      refine lv_if_ne (tgt := 35) hx hb dX10_relationOf_29 (by decide) (fun _ => ?_) (fun c => absurd c (by decide))
      rcases nk_split4 p1 (by (try simp only [nk_lt, nk_le, nk_eq, nk_wd, nk_c0, nk_c1, nk_c2, nk_c3, nk_c4, nk_c5, nk_c6, nk_c15, nk_c16, nk_c24, nk_c47, nk_c48, nk_c600, nk_c1728, nk_m1, nk_l0, nk_l1, nk_l2, nk_l3, nk_l5, nk_l15, nk_l24, nk_l47] at k_4); omega) with rfl | rfl | rfl | rfl
      · refine lv_iload_n hx hb dX10_relationOf_35 rfl (lv_at hl 1 rfl) ?_
        refine lv_iload_n hx hb dX10_relationOf_36 rfl (lv_at hl 2 rfl) ?_
        refine lv_ishr hx hb dX10_relationOf_37 ?_
        refine lv_topi (fun x_6 ex_6 => ?_)
        obtain rfl : x_6 = 8 := ex_6.trans (by first | rfl | decide)
        refine lv_iconst (v := 1) hx hb dX10_relationOf_38 (by decide) ?_
        refine lv_iand hx hb dX10_relationOf_39 ?_
        refine lv_topi (fun x_7 ex_7 => ?_)
        obtain rfl : x_7 = 0 := ex_7.trans (by first | rfl | decide)
        refine lv_if_ne (tgt := 45) hx hb dX10_relationOf_40 (by decide) (fun c => absurd (by decide) c) (fun _ => ?_)
        refine lv_iconst (v := 0) hx hb dX10_relationOf_43 (by decide) ?_
        refine W.widen (k := 0) (n := 0) (Nat.le_of_ble_eq_true rfl) (Nat.le_of_ble_eq_true rfl) ?_
        exact W.iret (v := 0) hx hb hr (fun t ht hW => ⟨⟨0, (), rfl, (by decide), trivial⟩, hS.F ht⟩) hS.2.2 dX10_relationOf_44
      · refine lv_iload_n hx hb dX10_relationOf_35 rfl (lv_at hl 1 rfl) ?_
        refine lv_iload_n hx hb dX10_relationOf_36 rfl (lv_at hl 2 rfl) ?_
        refine lv_ishr hx hb dX10_relationOf_37 ?_
        refine lv_topi (fun x_8 ex_8 => ?_)
        obtain rfl : x_8 = 4 := ex_8.trans (by first | rfl | decide)
        refine lv_iconst (v := 1) hx hb dX10_relationOf_38 (by decide) ?_
        refine lv_iand hx hb dX10_relationOf_39 ?_
        refine lv_topi (fun x_9 ex_9 => ?_)
        obtain rfl : x_9 = 0 := ex_9.trans (by first | rfl | decide)
        refine lv_if_ne (tgt := 45) hx hb dX10_relationOf_40 (by decide) (fun c => absurd (by decide) c) (fun _ => ?_)
        refine lv_iconst (v := 0) hx hb dX10_relationOf_43 (by decide) ?_
        refine W.widen (k := 0) (n := 0) (Nat.le_of_ble_eq_true rfl) (Nat.le_of_ble_eq_true rfl) ?_
        exact W.iret (v := 0) hx hb hr (fun t ht hW => ⟨⟨0, (), rfl, (by decide), trivial⟩, hS.F ht⟩) hS.2.2 dX10_relationOf_44
      · refine lv_iload_n hx hb dX10_relationOf_35 rfl (lv_at hl 1 rfl) ?_
        refine lv_iload_n hx hb dX10_relationOf_36 rfl (lv_at hl 2 rfl) ?_
        refine lv_ishr hx hb dX10_relationOf_37 ?_
        refine lv_topi (fun x_10 ex_10 => ?_)
        obtain rfl : x_10 = 2 := ex_10.trans (by first | rfl | decide)
        refine lv_iconst (v := 1) hx hb dX10_relationOf_38 (by decide) ?_
        refine lv_iand hx hb dX10_relationOf_39 ?_
        refine lv_topi (fun x_11 ex_11 => ?_)
        obtain rfl : x_11 = 0 := ex_11.trans (by first | rfl | decide)
        refine lv_if_ne (tgt := 45) hx hb dX10_relationOf_40 (by decide) (fun c => absurd (by decide) c) (fun _ => ?_)
        refine lv_iconst (v := 0) hx hb dX10_relationOf_43 (by decide) ?_
        refine W.widen (k := 0) (n := 0) (Nat.le_of_ble_eq_true rfl) (Nat.le_of_ble_eq_true rfl) ?_
        exact W.iret (v := 0) hx hb hr (fun t ht hW => ⟨⟨0, (), rfl, (by decide), trivial⟩, hS.F ht⟩) hS.2.2 dX10_relationOf_44
      · refine lv_iload_n hx hb dX10_relationOf_35 rfl (lv_at hl 1 rfl) ?_
        refine lv_iload_n hx hb dX10_relationOf_36 rfl (lv_at hl 2 rfl) ?_
        refine lv_ishr hx hb dX10_relationOf_37 ?_
        refine lv_topi (fun x_12 ex_12 => ?_)
        obtain rfl : x_12 = 1 := ex_12.trans (by first | rfl | decide)
        refine lv_iconst (v := 1) hx hb dX10_relationOf_38 (by decide) ?_
        refine lv_iand hx hb dX10_relationOf_39 ?_
        refine lv_topi (fun x_13 ex_13 => ?_)
        obtain rfl : x_13 = 1 := ex_13.trans (by first | rfl | decide)
        refine lv_if_ne (tgt := 45) hx hb dX10_relationOf_40 (by decide) (fun _ => ?_) (fun c => absurd c (by decide))
        refine lv_aload_n hx hb dX10_relationOf_45 rfl (lv_at hl 0 rfl) ?_
        refine va_get (D := (dC, dI)) (ci := 10) (v := .ref xHan) (C := RX10) (T := TX10) (N := 13) hx hb hts hiX10 hown hK hP 0 rfl rfl 8 (by decide) (hts (.fieldLink RX10 61 "ScissorsTable" "hang" "LScissorsTable$Hang;") (by decide +kernel)) (fun _ h9 => h9) rfl dX10_relationOf_46 ?_
        refine lv_iload_n hx hb dX10_relationOf_49 rfl (lv_at hl 1 rfl) ?_
        refine lv_iconst (v := 1) hx hb dX10_relationOf_50 (by decide) ?_
        refine lv_iload_n hx hb dX10_relationOf_51 rfl (lv_at hl 2 rfl) ?_
        refine lv_ishl hx hb dX10_relationOf_52 ?_
        refine lv_topi (fun x_14 ex_14 => ?_)
        obtain rfl : x_14 = 8 := ex_14.trans (by first | rfl | decide)
        refine lv_iconst (v := 1) hx hb dX10_relationOf_53 (by decide) ?_
        refine lv_isub hx hb dX10_relationOf_54 ?_
        refine lv_topi (fun x_15 ex_15 => ?_)
        obtain rfl : x_15 = 7 := ex_15.trans (by first | rfl | decide)
        refine lv_iand hx hb dX10_relationOf_55 ?_
        refine lv_topi (fun x_16 ex_16 => ?_)
        obtain rfl : x_16 = 0 := ex_16.trans (by first | rfl | decide)
        have hPc := hP.sub (ws' := []) [] rfl
        have hDc := hD.sub (ws' := []) [] (by decide) rfl
        have hFc := va_free (wc := []) hD hS hA [] rfl
        refine va_calli (va_runS (As := [.int 0]) (rest := [.ref xHan]) ⟨hx, hb, hml, hown, hts⟩ (c_J6_bitCount_0f7a4_0 l dC dI cB cI cJ H.size ) (va_cwS 1 hts gX10_relationOf_J6_bitCount_0f7a4 rfl rfl rfl (by decide +kernel) ⟨Nat.le_of_ble_eq_true rfl, Nat.le_of_ble_eq_true rfl⟩) ⟨fun a U g mk q => by obtain ⟨q0, q1, qP, qK, qD⟩ := q; exact ⟨q0, q1, qP, va_K.moved (u := U) (U := U.calling g mk a) (Vm.Alike.refl U.vm) qK, qD⟩, fun U hU hW => ⟨rfl, by rw [hU], by rw [hU]; exact hPc, va_K.moved hW.alike hK, hDc.weaken (fun _ _ _ _ => trivial)⟩⟩ rfl rfl hl.1 rfl (lv_room (Nat.le_of_ble_eq_true rfl)) dX10_relationOf_56 ⟨Nat.le_of_ble_eq_true rfl, Nat.le_of_ble_eq_true rfl⟩) hS (fun q _ h => hFc q h) hFc (fun r_17 u t H1 locs ht hvm hw hB hz1 hk1 hS => ?_)
        have hP1 : va_P (dC, dI) vwCl [] H1 := fun k q h => by simp at h
        have hD1 : va_D (va_A [] H.size) [] := ⟨fun i j p q h => by simp at h, fun k q h => by simp at h⟩
        obtain ⟨hP, hD⟩ := va_join (wr := [(x0, .inr (10, [.ref xTape, .ref xReader, .ref xBag, .ref xBld, .ref xAng, .ref xSum, .ref xPik, .int 0, .ref xHan, .ref xIns, .ref xShr, .ref xSta, .ref xTur])), (xSum, .inr (8, [.ref sM, .ref sP, .ref sA, .int 0])), (hH, .inl (cI, 7, (.inl (upd (fun _ => 0) (0 : Int32).toNatClampNeg 3)))), (hT, .inl (cJ, 7, (.inr (.inl (vp_updL (fun _ => 0) (0 : Int32).toNatClampNeg 1))))), (xHan, .inr (3, [.int 0, .int 1, .int 1, .ref hH, .ref hR, .ref hT, .ref hM])), (hM, .inl (cJ, 6, (.inr (.inl (vp_updL (fun _ => 0) (0 : Int32).toNatClampNeg 1)))))]) (w1 := []) hP hD [] [0, 1, 2, 3, 4, 5] rfl rfl (by decide) (by decide) hk1 hFc hP1 hD1
        generalize H1 = H at hP hS ⊢
        have hP : va_P (dC, dI) vwCl [(x0, .inr (10, [.ref xTape, .ref xReader, .ref xBag, .ref xBld, .ref xAng, .ref xSum, .ref xPik, .int 0, .ref xHan, .ref xIns, .ref xShr, .ref xSta, .ref xTur])), (xSum, .inr (8, [.ref sM, .ref sP, .ref sA, .int 0])), (hH, .inl (cI, 7, (.inl (upd (fun _ => 0) (0 : Int32).toNatClampNeg 3)))), (hT, .inl (cJ, 7, (.inr (.inl (vp_updL (fun _ => 0) (0 : Int32).toNatClampNeg 1))))), (xHan, .inr (3, [.int 0, .int 1, .int 1, .ref hH, .ref hR, .ref hT, .ref hM])), (hM, .inl (cJ, 6, (.inr (.inl (vp_updL (fun _ => 0) (0 : Int32).toNatClampNeg 1)))))] H := hP
        have hD : va_D A [(x0, .inr (10, [.ref xTape, .ref xReader, .ref xBag, .ref xBld, .ref xAng, .ref xSum, .ref xPik, .int 0, .ref xHan, .ref xIns, .ref xShr, .ref xSta, .ref xTur])), (xSum, .inr (8, [.ref sM, .ref sP, .ref sA, .int 0])), (hH, .inl (cI, 7, (.inl (upd (fun _ => 0) (0 : Int32).toNatClampNeg 3)))), (hT, .inl (cJ, 7, (.inr (.inl (vp_updL (fun _ => 0) (0 : Int32).toNatClampNeg 1))))), (xHan, .inr (3, [.int 0, .int 1, .int 1, .ref hH, .ref hR, .ref hT, .ref hM])), (hM, .inl (cJ, 6, (.inr (.inl (vp_updL (fun _ => 0) (0 : Int32).toNatClampNeg 1)))))] := hD
        have hr_17 := hw
        obtain rfl : r_17 = 0 := hr_17
        have hPc := hP.sub (ws' := [(xHan, .inr (3, [.int 0, .int 1, .int 1, .ref hH, .ref hR, .ref hT, .ref hM])), (hM, .inl (cJ, 6, (.inr (.inl (vp_updL (fun _ => 0) (0 : Int32).toNatClampNeg 1)))))]) [4, 5] rfl
        have hDc := hD.sub (ws' := [(xHan, .inr (3, [.int 0, .int 1, .int 1, .ref hH, .ref hR, .ref hT, .ref hM])), (hM, .inl (cJ, 6, (.inr (.inl (vp_updL (fun _ => 0) (0 : Int32).toNatClampNeg 1)))))]) [4, 5] (by decide) rfl
        have hFc := va_free (wc := [(xHan, .inr (3, [.int 0, .int 1, .int 1, .ref hH, .ref hR, .ref hT, .ref hM])), (hM, .inl (cJ, 6, (.inr (.inl (vp_updL (fun _ => 0) (0 : Int32).toNatClampNeg 1)))))]) hD hS hA [4, 5] rfl
        refine va_calli (va_runV (As := [.int 0]) (rest := []) ⟨hx, hb, hml, hown, hts⟩ (c_X3_timesOf_t1_0 l dC dI cB cI cJ H.size xHan hH hR hT hM) (cwV 1 hts gX10_relationOf_X3_timesOf rfl rfl rfl (by decide +kernel) ⟨Nat.le_of_ble_eq_true rfl, Nat.le_of_ble_eq_true rfl⟩) ⟨fun a U g mk q => by obtain ⟨q0, q1, qP, qK, qD⟩ := q; exact ⟨q0, q1, qP, va_K.moved (u := U) (U := U.calling g mk a) (Vm.Alike.refl U.vm) qK, qD⟩, va_recv hK hP (ci := 3) (q0 := 4) rfl rfl, fun U hU hW => ⟨rfl, by rw [hU], by rw [hU]; exact hPc, va_K.moved hW.alike hK, hDc.weaken (fun _ _ _ _ => trivial)⟩⟩ rfl rfl hl.1 rfl (lv_room (Nat.le_of_ble_eq_true rfl)) dX10_relationOf_59 ⟨Nat.le_of_ble_eq_true rfl, Nat.le_of_ble_eq_true rfl⟩) hS (fun q _ h => hFc q h) hFc (fun r_18 u t H1 locs ht hvm hw hB hz1 hk1 hS => ?_)
        have hP1 : va_P (dC, dI) vwCl [] H1 := fun k q h => by simp at h
        have hD1 : va_D (va_A [(xHan, .inr (3, [.int 0, .int 1, .int 1, .ref hH, .ref hR, .ref hT, .ref hM])), (hM, .inl (cJ, 6, (.inr (.inl (vp_updL (fun _ => 0) (0 : Int32).toNatClampNeg 1)))))] H.size) [] := ⟨fun i j p q h => by simp at h, fun k q h => by simp at h⟩
        obtain ⟨hP, hD⟩ := va_join (wr := [(x0, .inr (10, [.ref xTape, .ref xReader, .ref xBag, .ref xBld, .ref xAng, .ref xSum, .ref xPik, .int 0, .ref xHan, .ref xIns, .ref xShr, .ref xSta, .ref xTur])), (xSum, .inr (8, [.ref sM, .ref sP, .ref sA, .int 0])), (hH, .inl (cI, 7, (.inl (upd (fun _ => 0) (0 : Int32).toNatClampNeg 3)))), (hT, .inl (cJ, 7, (.inr (.inl (vp_updL (fun _ => 0) (0 : Int32).toNatClampNeg 1)))))]) (w1 := []) hP hD [4, 5] [0, 1, 2, 3] rfl rfl (by decide) (by decide) hk1 hFc hP1 hD1
        generalize H1 = H at hP hS ⊢
        have hP : va_P (dC, dI) vwCl [(x0, .inr (10, [.ref xTape, .ref xReader, .ref xBag, .ref xBld, .ref xAng, .ref xSum, .ref xPik, .int 0, .ref xHan, .ref xIns, .ref xShr, .ref xSta, .ref xTur])), (xSum, .inr (8, [.ref sM, .ref sP, .ref sA, .int 0])), (hH, .inl (cI, 7, (.inl (upd (fun _ => 0) (0 : Int32).toNatClampNeg 3)))), (hT, .inl (cJ, 7, (.inr (.inl (vp_updL (fun _ => 0) (0 : Int32).toNatClampNeg 1)))))] H := hP
        have hD : va_D A [(x0, .inr (10, [.ref xTape, .ref xReader, .ref xBag, .ref xBld, .ref xAng, .ref xSum, .ref xPik, .int 0, .ref xHan, .ref xIns, .ref xShr, .ref xSta, .ref xTur])), (xSum, .inr (8, [.ref sM, .ref sP, .ref sA, .int 0])), (hH, .inl (cI, 7, (.inl (upd (fun _ => 0) (0 : Int32).toNatClampNeg 3)))), (hT, .inl (cJ, 7, (.inr (.inl (vp_updL (fun _ => 0) (0 : Int32).toNatClampNeg 1)))))] := hD
        have hr_18 := hw
        obtain rfl : r_18 = 1 := hr_18
        refine W.widen (k := 0) (n := 0) (Nat.le_of_ble_eq_true rfl) (Nat.le_of_ble_eq_true rfl) ?_
        exact W.iret (v := 1) hx hb hr (fun t ht hW => ⟨⟨1, (), rfl, (by decide), trivial⟩, hS.F ht⟩) hS.2.2 dX10_relationOf_62
set_option maxHeartbeats 4000000 in
set_option maxRecDepth 100000 in
theorem c_X10_relationOf_9 (l : Launch) (dC : Nat → ClassId) (dI : Nat → Nat → Nat) (cB cI cJ : ClassId) (sz : Nat) (x0 xTape xReader xBag xBld xAng xSum xPik xHan xIns xShr xSta xTur sM sP sA hH hR hT hM : Nat) (p1 : Int32) : Met l yX10_relationOf wsX10_relationOf ({ frames := 12, cells := 0, slots := 0, locals := 400 }) (va_Pc [.ref x0, .int 9, .int p1] (fun U => U.heap.size = sz ∧ va_P (dC, dI) vwCl [(x0, .inr (10, [.ref xTape, .ref xReader, .ref xBag, .ref xBld, .ref xAng, .ref xSum, .ref xPik, .int 0, .ref xHan, .ref xIns, .ref xShr, .ref xSta, .ref xTur])), (xSum, .inr (8, [.ref sM, .ref sP, .ref sA, .int 0])), (xHan, .inr (3, [.int 0, .int 0, .int 0, .ref hH, .ref hR, .ref hT, .ref hM])), (hH, .inl (cI, 7, (.inl (fun _ => 0)))), (hT, .inl (cJ, 7, (.inr (.inl (fun _ => 0))))), (hM, .inl (cJ, 6, (.inr (.inl (fun _ => 0)))))] U.heap ∧ va_K (dC, dI) vwCl [(cB, .byte), (cI, .int), (cJ, .long)] U ∧ va_D (fun _ => True) [(x0, .inr (10, [.ref xTape, .ref xReader, .ref xBag, .ref xBld, .ref xAng, .ref xSum, .ref xPik, .int 0, .ref xHan, .ref xIns, .ref xShr, .ref xSta, .ref xTur])), (xSum, .inr (8, [.ref sM, .ref sP, .ref sA, .int 0])), (xHan, .inr (3, [.int 0, .int 0, .int 0, .ref hH, .ref hR, .ref hT, .ref hM])), (hH, .inl (cI, 7, (.inl (fun _ => 0)))), (hT, .inl (cJ, 7, (.inr (.inl (fun _ => 0))))), (hM, .inl (cJ, 6, (.inr (.inl (fun _ => 0)))))] ∧ va_Nw (.methodLinkNest RX3 62 yX10_gcd "ScissorsTable") U)) (va_Qi (fun (r : Int32) (_ : Unit) => r = sp_rel 9 p1) (fun _ _ => True) (va_A [(x0, .inr (10, [.ref xTape, .ref xReader, .ref xBag, .ref xBld, .ref xAng, .ref xSum, .ref xPik, .int 0, .ref xHan, .ref xIns, .ref xShr, .ref xSta, .ref xTur])), (xSum, .inr (8, [.ref sM, .ref sP, .ref sA, .int 0])), (xHan, .inr (3, [.int 0, .int 0, .int 0, .ref hH, .ref hR, .ref hT, .ref hM])), (hH, .inl (cI, 7, (.inl (fun _ => 0)))), (hT, .inl (cJ, 7, (.inr (.inl (fun _ => 0))))), (hM, .inl (cJ, 6, (.inr (.inl (fun _ => 0)))))] sz)) 0 0 (va_A [(x0, .inr (10, [.ref xTape, .ref xReader, .ref xBag, .ref xBld, .ref xAng, .ref xSum, .ref xPik, .int 0, .ref xHan, .ref xIns, .ref xShr, .ref xSta, .ref xTur])), (xSum, .inr (8, [.ref sM, .ref sP, .ref sA, .int 0])), (xHan, .inr (3, [.int 0, .int 0, .int 0, .ref hH, .ref hR, .ref hT, .ref hM])), (hH, .inl (cI, 7, (.inl (fun _ => 0)))), (hT, .inl (cJ, 7, (.inr (.inl (fun _ => 0))))), (hM, .inl (cJ, 6, (.inr (.inl (fun _ => 0)))))] sz) := by
  refine Met.ofW (cc := cX10_relationOf) (maxL := 3) (ret := (some .int)) (by decide) rfl ?_
  intro p e s m args below meth c s₁ B hml hv
  obtain ⟨rfl, hsz, hP, hK, hD0, hN0⟩ := hv
  have hx := B.exec
  have hb := B.bytes
  have hr := B.returns
  have hts := atoms_spec (ws := wsX10_relationOf) B.pre
  have hown : s.vm.findClass RX10 = some m.cls := findClass_of_methodNamed B.named
  have hlocks := B.notSynchronized
  have hiX10 : ∀ w ∈ u_ws RX10 TX10 13, w ∈ wsX10_relationOf := by decide +kernel
  subst hsz
  have hD := hD0.self (sz := s.heap.size)
  generalize hAe : va_A [(x0, .inr (10, [.ref xTape, .ref xReader, .ref xBag, .ref xBld, .ref xAng, .ref xSum, .ref xPik, .int 0, .ref xHan, .ref xIns, .ref xShr, .ref xSta, .ref xTur])), (xSum, .inr (8, [.ref sM, .ref sP, .ref sA, .int 0])), (xHan, .inr (3, [.int 0, .int 0, .int 0, .ref hH, .ref hR, .ref hT, .ref hM])), (hH, .inl (cI, 7, (.inl (fun _ => 0)))), (hT, .inl (cJ, 7, (.inr (.inl (fun _ => 0))))), (hM, .inl (cJ, 6, (.inr (.inl (fun _ => 0)))))] s.heap.size = A at hD ⊢
  have hA : ∀ q : Nat, s.heap.size ≤ q → A q := fun q h => by rw [← hAe]; exact Or.inr h
  have hS : va_S A s.heap s.heap [] := va_S.rf
  have hP : va_P (dC, dI) vwCl [(x0, .inr (10, [.ref xTape, .ref xReader, .ref xBag, .ref xBld, .ref xAng, .ref xSum, .ref xPik, .int 0, .ref xHan, .ref xIns, .ref xShr, .ref xSta, .ref xTur])), (xSum, .inr (8, [.ref sM, .ref sP, .ref sA, .int 0])), (xHan, .inr (3, [.int 0, .int 0, .int 0, .ref hH, .ref hR, .ref hT, .ref hM])), (hH, .inl (cI, 7, (.inl (fun _ => 0)))), (hT, .inl (cJ, 7, (.inr (.inl (fun _ => 0))))), (hM, .inl (cJ, 6, (.inr (.inl (fun _ => 0)))))] s.heap := hP
  have hl := lv_entry ([.ref x0, .int 9, .int p1]) (n := 3) (Nat.le_of_ble_eq_true rfl)
  rw [lg_entry_eq]
  generalize (lg_sl ([.ref x0, .int 9, .int p1]) ++ List.replicate (3 - (lg_sl ([.ref x0, .int 9, .int p1])).length) Slot.unset).toArray = ls at hl ⊢
  have hl : lv_has ls 3 [(0, .ref x0), (1, .int 9), (2, .int p1)] := hl
  refine lv_iload_n hx hb dX10_relationOf_0 rfl (lv_at hl 1 rfl) ?_
  have hPc := hP.sub (ws' := []) [] rfl
  have hDc := hD.sub (ws' := []) [] (by decide) rfl
  have hFc := va_free (wc := []) hD hS hA [] rfl
  refine va_calli (va_runS (As := [.int 9]) (rest := []) ⟨hx, hb, hml, hown, hts⟩ (c_X10_isSetOfSolids l dC dI cB cI cJ s.heap.size 9) (va_cwS 1 hts gX10_relationOf_X10_isSetOfSolids rfl rfl rfl (by decide +kernel) ⟨Nat.le_of_ble_eq_true rfl, Nat.le_of_ble_eq_true rfl⟩) ⟨fun a U g mk q => by obtain ⟨q0, q1, qP, qK, qD⟩ := q; exact ⟨q0, q1, qP, va_K.moved (u := U) (U := U.calling g mk a) (Vm.Alike.refl U.vm) qK, qD⟩, fun U hU hW => ⟨rfl, by rw [hU], by rw [hU]; exact hPc, va_K.moved hW.alike hK, hDc.weaken (fun _ _ _ _ => trivial)⟩⟩ rfl rfl hl.1 rfl (lv_room (Nat.le_of_ble_eq_true rfl)) dX10_relationOf_1 ⟨Nat.le_of_ble_eq_true rfl, Nat.le_of_ble_eq_true rfl⟩) hS (fun q _ h => hFc q h) hFc (fun r_1 u t H1 locs ht hvm hw hB hz1 hk1 hS => ?_)
  have hP1 : va_P (dC, dI) vwCl [] H1 := fun k q h => by simp at h
  have hD1 : va_D (va_A [] s.heap.size) [] := ⟨fun i j p q h => by simp at h, fun k q h => by simp at h⟩
  obtain ⟨hP, hD⟩ := va_join (wr := [(x0, .inr (10, [.ref xTape, .ref xReader, .ref xBag, .ref xBld, .ref xAng, .ref xSum, .ref xPik, .int 0, .ref xHan, .ref xIns, .ref xShr, .ref xSta, .ref xTur])), (xSum, .inr (8, [.ref sM, .ref sP, .ref sA, .int 0])), (xHan, .inr (3, [.int 0, .int 0, .int 0, .ref hH, .ref hR, .ref hT, .ref hM])), (hH, .inl (cI, 7, (.inl (fun _ => 0)))), (hT, .inl (cJ, 7, (.inr (.inl (fun _ => 0))))), (hM, .inl (cJ, 6, (.inr (.inl (fun _ => 0)))))]) (w1 := []) hP hD [] [0, 1, 2, 3, 4, 5] rfl rfl (by decide) (by decide) hk1 hFc hP1 hD1
  generalize H1 = H at hP hS ⊢
  have hP : va_P (dC, dI) vwCl [(x0, .inr (10, [.ref xTape, .ref xReader, .ref xBag, .ref xBld, .ref xAng, .ref xSum, .ref xPik, .int 0, .ref xHan, .ref xIns, .ref xShr, .ref xSta, .ref xTur])), (xSum, .inr (8, [.ref sM, .ref sP, .ref sA, .int 0])), (xHan, .inr (3, [.int 0, .int 0, .int 0, .ref hH, .ref hR, .ref hT, .ref hM])), (hH, .inl (cI, 7, (.inl (fun _ => 0)))), (hT, .inl (cJ, 7, (.inr (.inl (fun _ => 0))))), (hM, .inl (cJ, 6, (.inr (.inl (fun _ => 0)))))] H := hP
  have hD : va_D A [(x0, .inr (10, [.ref xTape, .ref xReader, .ref xBag, .ref xBld, .ref xAng, .ref xSum, .ref xPik, .int 0, .ref xHan, .ref xIns, .ref xShr, .ref xSta, .ref xTur])), (xSum, .inr (8, [.ref sM, .ref sP, .ref sA, .int 0])), (xHan, .inr (3, [.int 0, .int 0, .int 0, .ref hH, .ref hR, .ref hT, .ref hM])), (hH, .inl (cI, 7, (.inl (fun _ => 0)))), (hT, .inl (cJ, 7, (.inr (.inl (fun _ => 0))))), (hM, .inl (cJ, 6, (.inr (.inl (fun _ => 0)))))] := hD
  rcases hw with ⟨rfl, k_2⟩ | ⟨rfl, k_2⟩
  · refine lv_if_eq (tgt := 14) hx hb dX10_relationOf_4 (by decide) (fun _ => ?_) (fun c => absurd (by decide) c)
    refine lv_ldc (v := (-1000000)) hx hb hown (hts (.constant RX10 140 (-1000000)) (by decide +kernel)) dX10_relationOf_14 ?_
    refine W.widen (k := 0) (n := 0) (Nat.le_of_ble_eq_true rfl) (Nat.le_of_ble_eq_true rfl) ?_
    exact W.iret (v := (-1000000)) hx hb hr (fun t ht hW => ⟨⟨(-1000000), (), rfl, (absurd (by decide) k_2), trivial⟩, hS.F ht⟩) hS.2.2 dX10_relationOf_16
  · refine lv_if_eq (tgt := 14) hx hb dX10_relationOf_4 (by decide) (fun c => absurd c (by decide)) (fun _ => ?_)
    refine lv_iload_n hx hb dX10_relationOf_7 rfl (lv_at hl 2 rfl) ?_
    have hPc := hP.sub (ws' := []) [] rfl
    have hDc := hD.sub (ws' := []) [] (by decide) rfl
    have hFc := va_free (wc := []) hD hS hA [] rfl
    refine va_calli (va_runS (As := [.int p1]) (rest := []) ⟨hx, hb, hml, hown, hts⟩ (c_X10_isSolid l dC dI cB cI cJ H.size p1) (va_cwS 1 hts gX10_relationOf_X10_isSolid rfl rfl rfl (by decide +kernel) ⟨Nat.le_of_ble_eq_true rfl, Nat.le_of_ble_eq_true rfl⟩) ⟨fun a U g mk q => by obtain ⟨q0, q1, qP, qK, qD⟩ := q; exact ⟨q0, q1, qP, va_K.moved (u := U) (U := U.calling g mk a) (Vm.Alike.refl U.vm) qK, qD⟩, fun U hU hW => ⟨rfl, by rw [hU], by rw [hU]; exact hPc, va_K.moved hW.alike hK, hDc.weaken (fun _ _ _ _ => trivial)⟩⟩ rfl rfl hl.1 rfl (lv_room (Nat.le_of_ble_eq_true rfl)) dX10_relationOf_8 ⟨Nat.le_of_ble_eq_true rfl, Nat.le_of_ble_eq_true rfl⟩) hS (fun q _ h => hFc q h) hFc (fun r_3 u t H1 locs ht hvm hw hB hz1 hk1 hS => ?_)
    have hP1 : va_P (dC, dI) vwCl [] H1 := fun k q h => by simp at h
    have hD1 : va_D (va_A [] H.size) [] := ⟨fun i j p q h => by simp at h, fun k q h => by simp at h⟩
    obtain ⟨hP, hD⟩ := va_join (wr := [(x0, .inr (10, [.ref xTape, .ref xReader, .ref xBag, .ref xBld, .ref xAng, .ref xSum, .ref xPik, .int 0, .ref xHan, .ref xIns, .ref xShr, .ref xSta, .ref xTur])), (xSum, .inr (8, [.ref sM, .ref sP, .ref sA, .int 0])), (xHan, .inr (3, [.int 0, .int 0, .int 0, .ref hH, .ref hR, .ref hT, .ref hM])), (hH, .inl (cI, 7, (.inl (fun _ => 0)))), (hT, .inl (cJ, 7, (.inr (.inl (fun _ => 0))))), (hM, .inl (cJ, 6, (.inr (.inl (fun _ => 0)))))]) (w1 := []) hP hD [] [0, 1, 2, 3, 4, 5] rfl rfl (by decide) (by decide) hk1 hFc hP1 hD1
    generalize H1 = H at hP hS ⊢
    have hP : va_P (dC, dI) vwCl [(x0, .inr (10, [.ref xTape, .ref xReader, .ref xBag, .ref xBld, .ref xAng, .ref xSum, .ref xPik, .int 0, .ref xHan, .ref xIns, .ref xShr, .ref xSta, .ref xTur])), (xSum, .inr (8, [.ref sM, .ref sP, .ref sA, .int 0])), (xHan, .inr (3, [.int 0, .int 0, .int 0, .ref hH, .ref hR, .ref hT, .ref hM])), (hH, .inl (cI, 7, (.inl (fun _ => 0)))), (hT, .inl (cJ, 7, (.inr (.inl (fun _ => 0))))), (hM, .inl (cJ, 6, (.inr (.inl (fun _ => 0)))))] H := hP
    have hD : va_D A [(x0, .inr (10, [.ref xTape, .ref xReader, .ref xBag, .ref xBld, .ref xAng, .ref xSum, .ref xPik, .int 0, .ref xHan, .ref xIns, .ref xShr, .ref xSta, .ref xTur])), (xSum, .inr (8, [.ref sM, .ref sP, .ref sA, .int 0])), (xHan, .inr (3, [.int 0, .int 0, .int 0, .ref hH, .ref hR, .ref hT, .ref hM])), (hH, .inl (cI, 7, (.inl (fun _ => 0)))), (hT, .inl (cJ, 7, (.inr (.inl (fun _ => 0))))), (hM, .inl (cJ, 6, (.inr (.inl (fun _ => 0)))))] := hD
    rcases hw with ⟨rfl, k_4⟩ | ⟨rfl, k_4⟩
    · refine lv_if_ne (tgt := 17) hx hb dX10_relationOf_11 (by decide) (fun c => absurd (by decide) c) (fun _ => ?_)
      refine lv_ldc (v := (-1000000)) hx hb hown (hts (.constant RX10 140 (-1000000)) (by decide +kernel)) dX10_relationOf_14 ?_
      refine W.widen (k := 0) (n := 0) (Nat.le_of_ble_eq_true rfl) (Nat.le_of_ble_eq_true rfl) ?_
      exact W.iret (v := (-1000000)) hx hb hr (fun t ht hW => ⟨⟨(-1000000), (), rfl, (show (-1000000 : Int32) = sp_rel 9 p1 from (by unfold sp_rel; rw [if_neg (fun h9 => k_4 h9.2)])), trivial⟩, hS.F ht⟩) hS.2.2 dX10_relationOf_16
    · refine lv_if_ne (tgt := 17) hx hb dX10_relationOf_11 (by decide) (fun _ => ?_) (fun c => absurd c (by decide))
      refine lv_aload_n hx hb dX10_relationOf_17 rfl (lv_at hl 0 rfl) ?_
      refine lv_iload_n hx hb dX10_relationOf_18 rfl (lv_at hl 1 rfl) ?_
      have hPc := hP.sub (ws' := [(x0, .inr (10, [.ref xTape, .ref xReader, .ref xBag, .ref xBld, .ref xAng, .ref xSum, .ref xPik, .int 0, .ref xHan, .ref xIns, .ref xShr, .ref xSta, .ref xTur])), (xSum, .inr (8, [.ref sM, .ref sP, .ref sA, .int 0])), (xHan, .inr (3, [.int 0, .int 0, .int 0, .ref hH, .ref hR, .ref hT, .ref hM])), (hH, .inl (cI, 7, (.inl (fun _ => 0)))), (hT, .inl (cJ, 7, (.inr (.inl (fun _ => 0))))), (hM, .inl (cJ, 6, (.inr (.inl (fun _ => 0)))))]) [0, 1, 2, 3, 4, 5] rfl
      have hDc := hD.sub (ws' := [(x0, .inr (10, [.ref xTape, .ref xReader, .ref xBag, .ref xBld, .ref xAng, .ref xSum, .ref xPik, .int 0, .ref xHan, .ref xIns, .ref xShr, .ref xSta, .ref xTur])), (xSum, .inr (8, [.ref sM, .ref sP, .ref sA, .int 0])), (xHan, .inr (3, [.int 0, .int 0, .int 0, .ref hH, .ref hR, .ref hT, .ref hM])), (hH, .inl (cI, 7, (.inl (fun _ => 0)))), (hT, .inl (cJ, 7, (.inr (.inl (fun _ => 0))))), (hM, .inl (cJ, 6, (.inr (.inl (fun _ => 0)))))]) [0, 1, 2, 3, 4, 5] (by decide) rfl
      have hFc := va_free (wc := [(x0, .inr (10, [.ref xTape, .ref xReader, .ref xBag, .ref xBld, .ref xAng, .ref xSum, .ref xPik, .int 0, .ref xHan, .ref xIns, .ref xShr, .ref xSta, .ref xTur])), (xSum, .inr (8, [.ref sM, .ref sP, .ref sA, .int 0])), (xHan, .inr (3, [.int 0, .int 0, .int 0, .ref hH, .ref hR, .ref hT, .ref hM])), (hH, .inl (cI, 7, (.inl (fun _ => 0)))), (hT, .inl (cJ, 7, (.inr (.inl (fun _ => 0))))), (hM, .inl (cJ, 6, (.inr (.inl (fun _ => 0)))))]) hD hS hA [0, 1, 2, 3, 4, 5] rfl
      refine va_callv (va_runV (As := [.int 9]) (rest := []) ⟨hx, hb, hml, hown, hts⟩ (c_X10_hangSolids_9 l dC dI cB cI cJ H.size x0 xTape xReader xBag xBld xAng xSum xPik xHan xIns xShr xSta xTur sM sP sA hH hR hT hM (fun _ => 0) (fun _ => 0)) (cwV 1 hts gX10_relationOf_X10_hangSolids rfl rfl rfl (by decide +kernel) ⟨Nat.le_of_ble_eq_true rfl, Nat.le_of_ble_eq_true rfl⟩) ⟨fun a U g mk q => by obtain ⟨q0, q1, qP, qK, qD, qN0⟩ := q; exact ⟨q0, q1, qP, va_K.moved (u := U) (U := U.calling g mk a) (Vm.Alike.refl U.vm) qK, qD, va_Nw.same rfl rfl qN0⟩, va_recv hK hP (ci := 10) (q0 := 0) rfl rfl, fun U hU hW => ⟨rfl, by rw [hU], by rw [hU]; exact hPc, va_K.moved hW.alike hK, hDc.weaken (fun _ _ _ _ => trivial), va_Nw.warmM hW hN0⟩⟩ rfl rfl hl.1 rfl (lv_room (Nat.le_of_ble_eq_true rfl)) dX10_relationOf_19 ⟨Nat.le_of_ble_eq_true rfl, Nat.le_of_ble_eq_true rfl⟩) hS (fun q _ h => hFc q h) hFc (fun u t H1 locs ht hvm hw hB hz1 hk1 hS => ?_)
      obtain ⟨hP1, hK1, hD1⟩ := hB
      rw [ht] at hP1
      obtain ⟨hP, hD⟩ := va_join (wr := []) (w1 := [(x0, .inr (10, [.ref xTape, .ref xReader, .ref xBag, .ref xBld, .ref xAng, .ref xSum, .ref xPik, .int 0, .ref xHan, .ref xIns, .ref xShr, .ref xSta, .ref xTur])), (xHan, .inr (3, [.int 0, .int 2, .int 1, .ref hH, .ref hR, .ref hT, .ref hM])), (xSum, .inr (8, [.ref sM, .ref sP, .ref sA, .int 0])), (hH, .inl (cI, 7, (.inl (upd (upd (fun _ => 0) (0 : Int32).toNatClampNeg 0) (0 : Int32).toNatClampNeg 3)))), (hT, .inl (cJ, 7, (.inr (.inl (vp_updL (vp_updL (fun _ => 0) (0 : Int32).toNatClampNeg 1) (0 : Int32).toNatClampNeg 1))))), (hM, .inl (cJ, 6, (.inr (.inl (vp_updL (fun _ => 0) (0 : Int32).toNatClampNeg 1)))))]) hP hD [0, 1, 2, 3, 4, 5] [] rfl rfl (by decide) (by decide) hk1 hFc hP1 hD1
      generalize H1 = H at hP hS ⊢
      have hP : va_P (dC, dI) vwCl [(x0, .inr (10, [.ref xTape, .ref xReader, .ref xBag, .ref xBld, .ref xAng, .ref xSum, .ref xPik, .int 0, .ref xHan, .ref xIns, .ref xShr, .ref xSta, .ref xTur])), (xHan, .inr (3, [.int 0, .int 2, .int 1, .ref hH, .ref hR, .ref hT, .ref hM])), (xSum, .inr (8, [.ref sM, .ref sP, .ref sA, .int 0])), (hH, .inl (cI, 7, (.inl (upd (upd (fun _ => 0) (0 : Int32).toNatClampNeg 0) (0 : Int32).toNatClampNeg 3)))), (hT, .inl (cJ, 7, (.inr (.inl (vp_updL (vp_updL (fun _ => 0) (0 : Int32).toNatClampNeg 1) (0 : Int32).toNatClampNeg 1))))), (hM, .inl (cJ, 6, (.inr (.inl (vp_updL (fun _ => 0) (0 : Int32).toNatClampNeg 1)))))] H := hP
      have hD : va_D A [(x0, .inr (10, [.ref xTape, .ref xReader, .ref xBag, .ref xBld, .ref xAng, .ref xSum, .ref xPik, .int 0, .ref xHan, .ref xIns, .ref xShr, .ref xSta, .ref xTur])), (xHan, .inr (3, [.int 0, .int 2, .int 1, .ref hH, .ref hR, .ref hT, .ref hM])), (xSum, .inr (8, [.ref sM, .ref sP, .ref sA, .int 0])), (hH, .inl (cI, 7, (.inl (upd (upd (fun _ => 0) (0 : Int32).toNatClampNeg 0) (0 : Int32).toNatClampNeg 3)))), (hT, .inl (cJ, 7, (.inr (.inl (vp_updL (vp_updL (fun _ => 0) (0 : Int32).toNatClampNeg 1) (0 : Int32).toNatClampNeg 1))))), (hM, .inl (cJ, 6, (.inr (.inl (vp_updL (fun _ => 0) (0 : Int32).toNatClampNeg 1)))))] := hD
      refine lv_aload_n hx hb dX10_relationOf_22 rfl (lv_at hl 0 rfl) ?_
      refine va_get (D := (dC, dI)) (ci := 10) (v := .ref xHan) (C := RX10) (T := TX10) (N := 13) hx hb hts hiX10 hown hK hP 0 rfl rfl 8 (by decide) (hts (.fieldLink RX10 61 "ScissorsTable" "hang" "LScissorsTable$Hang;") (by decide +kernel)) (fun _ h9 => h9) rfl dX10_relationOf_23 ?_
      have hPc := hP.sub (ws' := [(xHan, .inr (3, [.int 0, .int 2, .int 1, .ref hH, .ref hR, .ref hT, .ref hM])), (hM, .inl (cJ, 6, (.inr (.inl (vp_updL (fun _ => 0) (0 : Int32).toNatClampNeg 1)))))]) [1, 5] rfl
      have hDc := hD.sub (ws' := [(xHan, .inr (3, [.int 0, .int 2, .int 1, .ref hH, .ref hR, .ref hT, .ref hM])), (hM, .inl (cJ, 6, (.inr (.inl (vp_updL (fun _ => 0) (0 : Int32).toNatClampNeg 1)))))]) [1, 5] (by decide) rfl
      have hFc := va_free (wc := [(xHan, .inr (3, [.int 0, .int 2, .int 1, .ref hH, .ref hR, .ref hT, .ref hM])), (hM, .inl (cJ, 6, (.inr (.inl (vp_updL (fun _ => 0) (0 : Int32).toNatClampNeg 1)))))]) hD hS hA [1, 5] rfl
      refine va_calli (va_runV (As := []) (rest := []) ⟨hx, hb, hml, hown, hts⟩ (c_X3_canTell_t2 l dC dI cB cI cJ H.size xHan hH hR hT hM) (cwV 0 hts gX10_relationOf_X3_canTell rfl rfl rfl (by decide +kernel) ⟨Nat.le_of_ble_eq_true rfl, Nat.le_of_ble_eq_true rfl⟩) ⟨fun a U g mk q => by obtain ⟨q0, q1, qP, qK, qD⟩ := q; exact ⟨q0, q1, qP, va_K.moved (u := U) (U := U.calling g mk a) (Vm.Alike.refl U.vm) qK, qD⟩, va_recv hK hP (ci := 3) (q0 := 1) rfl rfl, fun U hU hW => ⟨rfl, by rw [hU], by rw [hU]; exact hPc, va_K.moved hW.alike hK, hDc.weaken (fun _ _ _ _ => trivial)⟩⟩ rfl rfl hl.1 rfl (lv_room (Nat.le_of_ble_eq_true rfl)) dX10_relationOf_26 ⟨Nat.le_of_ble_eq_true rfl, Nat.le_of_ble_eq_true rfl⟩) hS (fun q _ h => hFc q h) hFc (fun r_5 u t H1 locs ht hvm hw hB hz1 hk1 hS => ?_)
      obtain ⟨hP1, hK1, hD1⟩ := hB
      rw [ht] at hP1
      obtain ⟨hP, hD⟩ := va_join (wr := [(x0, .inr (10, [.ref xTape, .ref xReader, .ref xBag, .ref xBld, .ref xAng, .ref xSum, .ref xPik, .int 0, .ref xHan, .ref xIns, .ref xShr, .ref xSta, .ref xTur])), (xSum, .inr (8, [.ref sM, .ref sP, .ref sA, .int 0])), (hH, .inl (cI, 7, (.inl (upd (upd (fun _ => 0) (0 : Int32).toNatClampNeg 0) (0 : Int32).toNatClampNeg 3)))), (hT, .inl (cJ, 7, (.inr (.inl (vp_updL (vp_updL (fun _ => 0) (0 : Int32).toNatClampNeg 1) (0 : Int32).toNatClampNeg 1)))))]) (w1 := [(xHan, .inr (3, [.int 0, .int 2, .int 1, .ref hH, .ref hR, .ref hT, .ref hM])), (hM, .inl (cJ, 6, (.inr (.inl (vp_updL (fun _ => 0) (0 : Int32).toNatClampNeg 1)))))]) hP hD [1, 5] [0, 2, 3, 4] rfl rfl (by decide) (by decide) hk1 hFc hP1 hD1
      generalize H1 = H at hP hS ⊢
      have hP : va_P (dC, dI) vwCl [(x0, .inr (10, [.ref xTape, .ref xReader, .ref xBag, .ref xBld, .ref xAng, .ref xSum, .ref xPik, .int 0, .ref xHan, .ref xIns, .ref xShr, .ref xSta, .ref xTur])), (xSum, .inr (8, [.ref sM, .ref sP, .ref sA, .int 0])), (hH, .inl (cI, 7, (.inl (upd (upd (fun _ => 0) (0 : Int32).toNatClampNeg 0) (0 : Int32).toNatClampNeg 3)))), (hT, .inl (cJ, 7, (.inr (.inl (vp_updL (vp_updL (fun _ => 0) (0 : Int32).toNatClampNeg 1) (0 : Int32).toNatClampNeg 1))))), (xHan, .inr (3, [.int 0, .int 2, .int 1, .ref hH, .ref hR, .ref hT, .ref hM])), (hM, .inl (cJ, 6, (.inr (.inl (vp_updL (fun _ => 0) (0 : Int32).toNatClampNeg 1)))))] H := hP
      have hD : va_D A [(x0, .inr (10, [.ref xTape, .ref xReader, .ref xBag, .ref xBld, .ref xAng, .ref xSum, .ref xPik, .int 0, .ref xHan, .ref xIns, .ref xShr, .ref xSta, .ref xTur])), (xSum, .inr (8, [.ref sM, .ref sP, .ref sA, .int 0])), (hH, .inl (cI, 7, (.inl (upd (upd (fun _ => 0) (0 : Int32).toNatClampNeg 0) (0 : Int32).toNatClampNeg 3)))), (hT, .inl (cJ, 7, (.inr (.inl (vp_updL (vp_updL (fun _ => 0) (0 : Int32).toNatClampNeg 1) (0 : Int32).toNatClampNeg 1))))), (xHan, .inr (3, [.int 0, .int 2, .int 1, .ref hH, .ref hR, .ref hT, .ref hM])), (hM, .inl (cJ, 6, (.inr (.inl (vp_updL (fun _ => 0) (0 : Int32).toNatClampNeg 1)))))] := hD
      have hr_5 := hw
      obtain rfl : r_5 = 1 := hr_5
      refine lv_if_ne (tgt := 35) hx hb dX10_relationOf_29 (by decide) (fun _ => ?_) (fun c => absurd c (by decide))
      rcases nk_split4 p1 (by (try simp only [nk_lt, nk_le, nk_eq, nk_wd, nk_c0, nk_c1, nk_c2, nk_c3, nk_c4, nk_c5, nk_c6, nk_c15, nk_c16, nk_c24, nk_c47, nk_c48, nk_c600, nk_c1728, nk_m1, nk_l0, nk_l1, nk_l2, nk_l3, nk_l5, nk_l15, nk_l24, nk_l47] at k_4); omega) with rfl | rfl | rfl | rfl
      · refine lv_iload_n hx hb dX10_relationOf_35 rfl (lv_at hl 1 rfl) ?_
        refine lv_iload_n hx hb dX10_relationOf_36 rfl (lv_at hl 2 rfl) ?_
        refine lv_ishr hx hb dX10_relationOf_37 ?_
        refine lv_topi (fun x_6 ex_6 => ?_)
        obtain rfl : x_6 = 9 := ex_6.trans (by first | rfl | decide)
        refine lv_iconst (v := 1) hx hb dX10_relationOf_38 (by decide) ?_
        refine lv_iand hx hb dX10_relationOf_39 ?_
        refine lv_topi (fun x_7 ex_7 => ?_)
        obtain rfl : x_7 = 1 := ex_7.trans (by first | rfl | decide)
        refine lv_if_ne (tgt := 45) hx hb dX10_relationOf_40 (by decide) (fun _ => ?_) (fun c => absurd c (by decide))
        refine lv_aload_n hx hb dX10_relationOf_45 rfl (lv_at hl 0 rfl) ?_
        refine va_get (D := (dC, dI)) (ci := 10) (v := .ref xHan) (C := RX10) (T := TX10) (N := 13) hx hb hts hiX10 hown hK hP 0 rfl rfl 8 (by decide) (hts (.fieldLink RX10 61 "ScissorsTable" "hang" "LScissorsTable$Hang;") (by decide +kernel)) (fun _ h9 => h9) rfl dX10_relationOf_46 ?_
        refine lv_iload_n hx hb dX10_relationOf_49 rfl (lv_at hl 1 rfl) ?_
        refine lv_iconst (v := 1) hx hb dX10_relationOf_50 (by decide) ?_
        refine lv_iload_n hx hb dX10_relationOf_51 rfl (lv_at hl 2 rfl) ?_
        refine lv_ishl hx hb dX10_relationOf_52 ?_
        refine lv_topi (fun x_8 ex_8 => ?_)
        obtain rfl : x_8 = 1 := ex_8.trans (by first | rfl | decide)
        refine lv_iconst (v := 1) hx hb dX10_relationOf_53 (by decide) ?_
        refine lv_isub hx hb dX10_relationOf_54 ?_
        refine lv_topi (fun x_9 ex_9 => ?_)
        obtain rfl : x_9 = 0 := ex_9.trans (by first | rfl | decide)
        refine lv_iand hx hb dX10_relationOf_55 ?_
        refine lv_topi (fun x_10 ex_10 => ?_)
        obtain rfl : x_10 = 0 := ex_10.trans (by first | rfl | decide)
        have hPc := hP.sub (ws' := []) [] rfl
        have hDc := hD.sub (ws' := []) [] (by decide) rfl
        have hFc := va_free (wc := []) hD hS hA [] rfl
        refine va_calli (va_runS (As := [.int 0]) (rest := [.ref xHan]) ⟨hx, hb, hml, hown, hts⟩ (c_J6_bitCount_0f7a4_0 l dC dI cB cI cJ H.size ) (va_cwS 1 hts gX10_relationOf_J6_bitCount_0f7a4 rfl rfl rfl (by decide +kernel) ⟨Nat.le_of_ble_eq_true rfl, Nat.le_of_ble_eq_true rfl⟩) ⟨fun a U g mk q => by obtain ⟨q0, q1, qP, qK, qD⟩ := q; exact ⟨q0, q1, qP, va_K.moved (u := U) (U := U.calling g mk a) (Vm.Alike.refl U.vm) qK, qD⟩, fun U hU hW => ⟨rfl, by rw [hU], by rw [hU]; exact hPc, va_K.moved hW.alike hK, hDc.weaken (fun _ _ _ _ => trivial)⟩⟩ rfl rfl hl.1 rfl (lv_room (Nat.le_of_ble_eq_true rfl)) dX10_relationOf_56 ⟨Nat.le_of_ble_eq_true rfl, Nat.le_of_ble_eq_true rfl⟩) hS (fun q _ h => hFc q h) hFc (fun r_11 u t H1 locs ht hvm hw hB hz1 hk1 hS => ?_)
        have hP1 : va_P (dC, dI) vwCl [] H1 := fun k q h => by simp at h
        have hD1 : va_D (va_A [] H.size) [] := ⟨fun i j p q h => by simp at h, fun k q h => by simp at h⟩
        obtain ⟨hP, hD⟩ := va_join (wr := [(x0, .inr (10, [.ref xTape, .ref xReader, .ref xBag, .ref xBld, .ref xAng, .ref xSum, .ref xPik, .int 0, .ref xHan, .ref xIns, .ref xShr, .ref xSta, .ref xTur])), (xSum, .inr (8, [.ref sM, .ref sP, .ref sA, .int 0])), (hH, .inl (cI, 7, (.inl (upd (upd (fun _ => 0) (0 : Int32).toNatClampNeg 0) (0 : Int32).toNatClampNeg 3)))), (hT, .inl (cJ, 7, (.inr (.inl (vp_updL (vp_updL (fun _ => 0) (0 : Int32).toNatClampNeg 1) (0 : Int32).toNatClampNeg 1))))), (xHan, .inr (3, [.int 0, .int 2, .int 1, .ref hH, .ref hR, .ref hT, .ref hM])), (hM, .inl (cJ, 6, (.inr (.inl (vp_updL (fun _ => 0) (0 : Int32).toNatClampNeg 1)))))]) (w1 := []) hP hD [] [0, 1, 2, 3, 4, 5] rfl rfl (by decide) (by decide) hk1 hFc hP1 hD1
        generalize H1 = H at hP hS ⊢
        have hP : va_P (dC, dI) vwCl [(x0, .inr (10, [.ref xTape, .ref xReader, .ref xBag, .ref xBld, .ref xAng, .ref xSum, .ref xPik, .int 0, .ref xHan, .ref xIns, .ref xShr, .ref xSta, .ref xTur])), (xSum, .inr (8, [.ref sM, .ref sP, .ref sA, .int 0])), (hH, .inl (cI, 7, (.inl (upd (upd (fun _ => 0) (0 : Int32).toNatClampNeg 0) (0 : Int32).toNatClampNeg 3)))), (hT, .inl (cJ, 7, (.inr (.inl (vp_updL (vp_updL (fun _ => 0) (0 : Int32).toNatClampNeg 1) (0 : Int32).toNatClampNeg 1))))), (xHan, .inr (3, [.int 0, .int 2, .int 1, .ref hH, .ref hR, .ref hT, .ref hM])), (hM, .inl (cJ, 6, (.inr (.inl (vp_updL (fun _ => 0) (0 : Int32).toNatClampNeg 1)))))] H := hP
        have hD : va_D A [(x0, .inr (10, [.ref xTape, .ref xReader, .ref xBag, .ref xBld, .ref xAng, .ref xSum, .ref xPik, .int 0, .ref xHan, .ref xIns, .ref xShr, .ref xSta, .ref xTur])), (xSum, .inr (8, [.ref sM, .ref sP, .ref sA, .int 0])), (hH, .inl (cI, 7, (.inl (upd (upd (fun _ => 0) (0 : Int32).toNatClampNeg 0) (0 : Int32).toNatClampNeg 3)))), (hT, .inl (cJ, 7, (.inr (.inl (vp_updL (vp_updL (fun _ => 0) (0 : Int32).toNatClampNeg 1) (0 : Int32).toNatClampNeg 1))))), (xHan, .inr (3, [.int 0, .int 2, .int 1, .ref hH, .ref hR, .ref hT, .ref hM])), (hM, .inl (cJ, 6, (.inr (.inl (vp_updL (fun _ => 0) (0 : Int32).toNatClampNeg 1)))))] := hD
        have hr_11 := hw
        obtain rfl : r_11 = 0 := hr_11
        have hPc := hP.sub (ws' := [(xHan, .inr (3, [.int 0, .int 2, .int 1, .ref hH, .ref hR, .ref hT, .ref hM])), (hM, .inl (cJ, 6, (.inr (.inl (vp_updL (fun _ => 0) (0 : Int32).toNatClampNeg 1)))))]) [4, 5] rfl
        have hDc := hD.sub (ws' := [(xHan, .inr (3, [.int 0, .int 2, .int 1, .ref hH, .ref hR, .ref hT, .ref hM])), (hM, .inl (cJ, 6, (.inr (.inl (vp_updL (fun _ => 0) (0 : Int32).toNatClampNeg 1)))))]) [4, 5] (by decide) rfl
        have hFc := va_free (wc := [(xHan, .inr (3, [.int 0, .int 2, .int 1, .ref hH, .ref hR, .ref hT, .ref hM])), (hM, .inl (cJ, 6, (.inr (.inl (vp_updL (fun _ => 0) (0 : Int32).toNatClampNeg 1)))))]) hD hS hA [4, 5] rfl
        refine va_calli (va_runV (As := [.int 0]) (rest := []) ⟨hx, hb, hml, hown, hts⟩ (c_X3_timesOf_t2_0 l dC dI cB cI cJ H.size xHan hH hR hT hM) (cwV 1 hts gX10_relationOf_X3_timesOf rfl rfl rfl (by decide +kernel) ⟨Nat.le_of_ble_eq_true rfl, Nat.le_of_ble_eq_true rfl⟩) ⟨fun a U g mk q => by obtain ⟨q0, q1, qP, qK, qD⟩ := q; exact ⟨q0, q1, qP, va_K.moved (u := U) (U := U.calling g mk a) (Vm.Alike.refl U.vm) qK, qD⟩, va_recv hK hP (ci := 3) (q0 := 4) rfl rfl, fun U hU hW => ⟨rfl, by rw [hU], by rw [hU]; exact hPc, va_K.moved hW.alike hK, hDc.weaken (fun _ _ _ _ => trivial)⟩⟩ rfl rfl hl.1 rfl (lv_room (Nat.le_of_ble_eq_true rfl)) dX10_relationOf_59 ⟨Nat.le_of_ble_eq_true rfl, Nat.le_of_ble_eq_true rfl⟩) hS (fun q _ h => hFc q h) hFc (fun r_12 u t H1 locs ht hvm hw hB hz1 hk1 hS => ?_)
        have hP1 : va_P (dC, dI) vwCl [] H1 := fun k q h => by simp at h
        have hD1 : va_D (va_A [(xHan, .inr (3, [.int 0, .int 2, .int 1, .ref hH, .ref hR, .ref hT, .ref hM])), (hM, .inl (cJ, 6, (.inr (.inl (vp_updL (fun _ => 0) (0 : Int32).toNatClampNeg 1)))))] H.size) [] := ⟨fun i j p q h => by simp at h, fun k q h => by simp at h⟩
        obtain ⟨hP, hD⟩ := va_join (wr := [(x0, .inr (10, [.ref xTape, .ref xReader, .ref xBag, .ref xBld, .ref xAng, .ref xSum, .ref xPik, .int 0, .ref xHan, .ref xIns, .ref xShr, .ref xSta, .ref xTur])), (xSum, .inr (8, [.ref sM, .ref sP, .ref sA, .int 0])), (hH, .inl (cI, 7, (.inl (upd (upd (fun _ => 0) (0 : Int32).toNatClampNeg 0) (0 : Int32).toNatClampNeg 3)))), (hT, .inl (cJ, 7, (.inr (.inl (vp_updL (vp_updL (fun _ => 0) (0 : Int32).toNatClampNeg 1) (0 : Int32).toNatClampNeg 1)))))]) (w1 := []) hP hD [4, 5] [0, 1, 2, 3] rfl rfl (by decide) (by decide) hk1 hFc hP1 hD1
        generalize H1 = H at hP hS ⊢
        have hP : va_P (dC, dI) vwCl [(x0, .inr (10, [.ref xTape, .ref xReader, .ref xBag, .ref xBld, .ref xAng, .ref xSum, .ref xPik, .int 0, .ref xHan, .ref xIns, .ref xShr, .ref xSta, .ref xTur])), (xSum, .inr (8, [.ref sM, .ref sP, .ref sA, .int 0])), (hH, .inl (cI, 7, (.inl (upd (upd (fun _ => 0) (0 : Int32).toNatClampNeg 0) (0 : Int32).toNatClampNeg 3)))), (hT, .inl (cJ, 7, (.inr (.inl (vp_updL (vp_updL (fun _ => 0) (0 : Int32).toNatClampNeg 1) (0 : Int32).toNatClampNeg 1)))))] H := hP
        have hD : va_D A [(x0, .inr (10, [.ref xTape, .ref xReader, .ref xBag, .ref xBld, .ref xAng, .ref xSum, .ref xPik, .int 0, .ref xHan, .ref xIns, .ref xShr, .ref xSta, .ref xTur])), (xSum, .inr (8, [.ref sM, .ref sP, .ref sA, .int 0])), (hH, .inl (cI, 7, (.inl (upd (upd (fun _ => 0) (0 : Int32).toNatClampNeg 0) (0 : Int32).toNatClampNeg 3)))), (hT, .inl (cJ, 7, (.inr (.inl (vp_updL (vp_updL (fun _ => 0) (0 : Int32).toNatClampNeg 1) (0 : Int32).toNatClampNeg 1)))))] := hD
        have hr_12 := hw
        obtain rfl : r_12 = 1 := hr_12
        refine W.widen (k := 0) (n := 0) (Nat.le_of_ble_eq_true rfl) (Nat.le_of_ble_eq_true rfl) ?_
        exact W.iret (v := 1) hx hb hr (fun t ht hW => ⟨⟨1, (), rfl, (by decide), trivial⟩, hS.F ht⟩) hS.2.2 dX10_relationOf_62
      · refine lv_iload_n hx hb dX10_relationOf_35 rfl (lv_at hl 1 rfl) ?_
        refine lv_iload_n hx hb dX10_relationOf_36 rfl (lv_at hl 2 rfl) ?_
        refine lv_ishr hx hb dX10_relationOf_37 ?_
        refine lv_topi (fun x_13 ex_13 => ?_)
        obtain rfl : x_13 = 4 := ex_13.trans (by first | rfl | decide)
        refine lv_iconst (v := 1) hx hb dX10_relationOf_38 (by decide) ?_
        refine lv_iand hx hb dX10_relationOf_39 ?_
        refine lv_topi (fun x_14 ex_14 => ?_)
        obtain rfl : x_14 = 0 := ex_14.trans (by first | rfl | decide)
        refine lv_if_ne (tgt := 45) hx hb dX10_relationOf_40 (by decide) (fun c => absurd (by decide) c) (fun _ => ?_)
        refine lv_iconst (v := 0) hx hb dX10_relationOf_43 (by decide) ?_
        refine W.widen (k := 0) (n := 0) (Nat.le_of_ble_eq_true rfl) (Nat.le_of_ble_eq_true rfl) ?_
        exact W.iret (v := 0) hx hb hr (fun t ht hW => ⟨⟨0, (), rfl, (by decide), trivial⟩, hS.F ht⟩) hS.2.2 dX10_relationOf_44
      · refine lv_iload_n hx hb dX10_relationOf_35 rfl (lv_at hl 1 rfl) ?_
        refine lv_iload_n hx hb dX10_relationOf_36 rfl (lv_at hl 2 rfl) ?_
        refine lv_ishr hx hb dX10_relationOf_37 ?_
        refine lv_topi (fun x_15 ex_15 => ?_)
        obtain rfl : x_15 = 2 := ex_15.trans (by first | rfl | decide)
        refine lv_iconst (v := 1) hx hb dX10_relationOf_38 (by decide) ?_
        refine lv_iand hx hb dX10_relationOf_39 ?_
        refine lv_topi (fun x_16 ex_16 => ?_)
        obtain rfl : x_16 = 0 := ex_16.trans (by first | rfl | decide)
        refine lv_if_ne (tgt := 45) hx hb dX10_relationOf_40 (by decide) (fun c => absurd (by decide) c) (fun _ => ?_)
        refine lv_iconst (v := 0) hx hb dX10_relationOf_43 (by decide) ?_
        refine W.widen (k := 0) (n := 0) (Nat.le_of_ble_eq_true rfl) (Nat.le_of_ble_eq_true rfl) ?_
        exact W.iret (v := 0) hx hb hr (fun t ht hW => ⟨⟨0, (), rfl, (by decide), trivial⟩, hS.F ht⟩) hS.2.2 dX10_relationOf_44
      · refine lv_iload_n hx hb dX10_relationOf_35 rfl (lv_at hl 1 rfl) ?_
        refine lv_iload_n hx hb dX10_relationOf_36 rfl (lv_at hl 2 rfl) ?_
        refine lv_ishr hx hb dX10_relationOf_37 ?_
        refine lv_topi (fun x_17 ex_17 => ?_)
        obtain rfl : x_17 = 1 := ex_17.trans (by first | rfl | decide)
        refine lv_iconst (v := 1) hx hb dX10_relationOf_38 (by decide) ?_
        refine lv_iand hx hb dX10_relationOf_39 ?_
        refine lv_topi (fun x_18 ex_18 => ?_)
        obtain rfl : x_18 = 1 := ex_18.trans (by first | rfl | decide)
        refine lv_if_ne (tgt := 45) hx hb dX10_relationOf_40 (by decide) (fun _ => ?_) (fun c => absurd c (by decide))
        refine lv_aload_n hx hb dX10_relationOf_45 rfl (lv_at hl 0 rfl) ?_
        refine va_get (D := (dC, dI)) (ci := 10) (v := .ref xHan) (C := RX10) (T := TX10) (N := 13) hx hb hts hiX10 hown hK hP 0 rfl rfl 8 (by decide) (hts (.fieldLink RX10 61 "ScissorsTable" "hang" "LScissorsTable$Hang;") (by decide +kernel)) (fun _ h9 => h9) rfl dX10_relationOf_46 ?_
        refine lv_iload_n hx hb dX10_relationOf_49 rfl (lv_at hl 1 rfl) ?_
        refine lv_iconst (v := 1) hx hb dX10_relationOf_50 (by decide) ?_
        refine lv_iload_n hx hb dX10_relationOf_51 rfl (lv_at hl 2 rfl) ?_
        refine lv_ishl hx hb dX10_relationOf_52 ?_
        refine lv_topi (fun x_19 ex_19 => ?_)
        obtain rfl : x_19 = 8 := ex_19.trans (by first | rfl | decide)
        refine lv_iconst (v := 1) hx hb dX10_relationOf_53 (by decide) ?_
        refine lv_isub hx hb dX10_relationOf_54 ?_
        refine lv_topi (fun x_20 ex_20 => ?_)
        obtain rfl : x_20 = 7 := ex_20.trans (by first | rfl | decide)
        refine lv_iand hx hb dX10_relationOf_55 ?_
        refine lv_topi (fun x_21 ex_21 => ?_)
        obtain rfl : x_21 = 1 := ex_21.trans (by first | rfl | decide)
        have hPc := hP.sub (ws' := []) [] rfl
        have hDc := hD.sub (ws' := []) [] (by decide) rfl
        have hFc := va_free (wc := []) hD hS hA [] rfl
        refine va_calli (va_runS (As := [.int 1]) (rest := [.ref xHan]) ⟨hx, hb, hml, hown, hts⟩ (c_J6_bitCount_0f7a4_1 l dC dI cB cI cJ H.size ) (va_cwS 1 hts gX10_relationOf_J6_bitCount_0f7a4 rfl rfl rfl (by decide +kernel) ⟨Nat.le_of_ble_eq_true rfl, Nat.le_of_ble_eq_true rfl⟩) ⟨fun a U g mk q => by obtain ⟨q0, q1, qP, qK, qD⟩ := q; exact ⟨q0, q1, qP, va_K.moved (u := U) (U := U.calling g mk a) (Vm.Alike.refl U.vm) qK, qD⟩, fun U hU hW => ⟨rfl, by rw [hU], by rw [hU]; exact hPc, va_K.moved hW.alike hK, hDc.weaken (fun _ _ _ _ => trivial)⟩⟩ rfl rfl hl.1 rfl (lv_room (Nat.le_of_ble_eq_true rfl)) dX10_relationOf_56 ⟨Nat.le_of_ble_eq_true rfl, Nat.le_of_ble_eq_true rfl⟩) hS (fun q _ h => hFc q h) hFc (fun r_22 u t H1 locs ht hvm hw hB hz1 hk1 hS => ?_)
        have hP1 : va_P (dC, dI) vwCl [] H1 := fun k q h => by simp at h
        have hD1 : va_D (va_A [] H.size) [] := ⟨fun i j p q h => by simp at h, fun k q h => by simp at h⟩
        obtain ⟨hP, hD⟩ := va_join (wr := [(x0, .inr (10, [.ref xTape, .ref xReader, .ref xBag, .ref xBld, .ref xAng, .ref xSum, .ref xPik, .int 0, .ref xHan, .ref xIns, .ref xShr, .ref xSta, .ref xTur])), (xSum, .inr (8, [.ref sM, .ref sP, .ref sA, .int 0])), (hH, .inl (cI, 7, (.inl (upd (upd (fun _ => 0) (0 : Int32).toNatClampNeg 0) (0 : Int32).toNatClampNeg 3)))), (hT, .inl (cJ, 7, (.inr (.inl (vp_updL (vp_updL (fun _ => 0) (0 : Int32).toNatClampNeg 1) (0 : Int32).toNatClampNeg 1))))), (xHan, .inr (3, [.int 0, .int 2, .int 1, .ref hH, .ref hR, .ref hT, .ref hM])), (hM, .inl (cJ, 6, (.inr (.inl (vp_updL (fun _ => 0) (0 : Int32).toNatClampNeg 1)))))]) (w1 := []) hP hD [] [0, 1, 2, 3, 4, 5] rfl rfl (by decide) (by decide) hk1 hFc hP1 hD1
        generalize H1 = H at hP hS ⊢
        have hP : va_P (dC, dI) vwCl [(x0, .inr (10, [.ref xTape, .ref xReader, .ref xBag, .ref xBld, .ref xAng, .ref xSum, .ref xPik, .int 0, .ref xHan, .ref xIns, .ref xShr, .ref xSta, .ref xTur])), (xSum, .inr (8, [.ref sM, .ref sP, .ref sA, .int 0])), (hH, .inl (cI, 7, (.inl (upd (upd (fun _ => 0) (0 : Int32).toNatClampNeg 0) (0 : Int32).toNatClampNeg 3)))), (hT, .inl (cJ, 7, (.inr (.inl (vp_updL (vp_updL (fun _ => 0) (0 : Int32).toNatClampNeg 1) (0 : Int32).toNatClampNeg 1))))), (xHan, .inr (3, [.int 0, .int 2, .int 1, .ref hH, .ref hR, .ref hT, .ref hM])), (hM, .inl (cJ, 6, (.inr (.inl (vp_updL (fun _ => 0) (0 : Int32).toNatClampNeg 1)))))] H := hP
        have hD : va_D A [(x0, .inr (10, [.ref xTape, .ref xReader, .ref xBag, .ref xBld, .ref xAng, .ref xSum, .ref xPik, .int 0, .ref xHan, .ref xIns, .ref xShr, .ref xSta, .ref xTur])), (xSum, .inr (8, [.ref sM, .ref sP, .ref sA, .int 0])), (hH, .inl (cI, 7, (.inl (upd (upd (fun _ => 0) (0 : Int32).toNatClampNeg 0) (0 : Int32).toNatClampNeg 3)))), (hT, .inl (cJ, 7, (.inr (.inl (vp_updL (vp_updL (fun _ => 0) (0 : Int32).toNatClampNeg 1) (0 : Int32).toNatClampNeg 1))))), (xHan, .inr (3, [.int 0, .int 2, .int 1, .ref hH, .ref hR, .ref hT, .ref hM])), (hM, .inl (cJ, 6, (.inr (.inl (vp_updL (fun _ => 0) (0 : Int32).toNatClampNeg 1)))))] := hD
        have hr_22 := hw
        obtain rfl : r_22 = 1 := hr_22
        have hPc := hP.sub (ws' := [(xHan, .inr (3, [.int 0, .int 2, .int 1, .ref hH, .ref hR, .ref hT, .ref hM])), (hM, .inl (cJ, 6, (.inr (.inl (vp_updL (fun _ => 0) (0 : Int32).toNatClampNeg 1)))))]) [4, 5] rfl
        have hDc := hD.sub (ws' := [(xHan, .inr (3, [.int 0, .int 2, .int 1, .ref hH, .ref hR, .ref hT, .ref hM])), (hM, .inl (cJ, 6, (.inr (.inl (vp_updL (fun _ => 0) (0 : Int32).toNatClampNeg 1)))))]) [4, 5] (by decide) rfl
        have hFc := va_free (wc := [(xHan, .inr (3, [.int 0, .int 2, .int 1, .ref hH, .ref hR, .ref hT, .ref hM])), (hM, .inl (cJ, 6, (.inr (.inl (vp_updL (fun _ => 0) (0 : Int32).toNatClampNeg 1)))))]) hD hS hA [4, 5] rfl
        refine va_calli (va_runV (As := [.int 1]) (rest := []) ⟨hx, hb, hml, hown, hts⟩ (c_X3_timesOf_t2_1 l dC dI cB cI cJ H.size xHan hH hR hT hM) (cwV 1 hts gX10_relationOf_X3_timesOf rfl rfl rfl (by decide +kernel) ⟨Nat.le_of_ble_eq_true rfl, Nat.le_of_ble_eq_true rfl⟩) ⟨fun a U g mk q => by obtain ⟨q0, q1, qP, qK, qD⟩ := q; exact ⟨q0, q1, qP, va_K.moved (u := U) (U := U.calling g mk a) (Vm.Alike.refl U.vm) qK, qD⟩, va_recv hK hP (ci := 3) (q0 := 4) rfl rfl, fun U hU hW => ⟨rfl, by rw [hU], by rw [hU]; exact hPc, va_K.moved hW.alike hK, hDc.weaken (fun _ _ _ _ => trivial)⟩⟩ rfl rfl hl.1 rfl (lv_room (Nat.le_of_ble_eq_true rfl)) dX10_relationOf_59 ⟨Nat.le_of_ble_eq_true rfl, Nat.le_of_ble_eq_true rfl⟩) hS (fun q _ h => hFc q h) hFc (fun r_23 u t H1 locs ht hvm hw hB hz1 hk1 hS => ?_)
        have hP1 : va_P (dC, dI) vwCl [] H1 := fun k q h => by simp at h
        have hD1 : va_D (va_A [(xHan, .inr (3, [.int 0, .int 2, .int 1, .ref hH, .ref hR, .ref hT, .ref hM])), (hM, .inl (cJ, 6, (.inr (.inl (vp_updL (fun _ => 0) (0 : Int32).toNatClampNeg 1)))))] H.size) [] := ⟨fun i j p q h => by simp at h, fun k q h => by simp at h⟩
        obtain ⟨hP, hD⟩ := va_join (wr := [(x0, .inr (10, [.ref xTape, .ref xReader, .ref xBag, .ref xBld, .ref xAng, .ref xSum, .ref xPik, .int 0, .ref xHan, .ref xIns, .ref xShr, .ref xSta, .ref xTur])), (xSum, .inr (8, [.ref sM, .ref sP, .ref sA, .int 0])), (hH, .inl (cI, 7, (.inl (upd (upd (fun _ => 0) (0 : Int32).toNatClampNeg 0) (0 : Int32).toNatClampNeg 3)))), (hT, .inl (cJ, 7, (.inr (.inl (vp_updL (vp_updL (fun _ => 0) (0 : Int32).toNatClampNeg 1) (0 : Int32).toNatClampNeg 1)))))]) (w1 := []) hP hD [4, 5] [0, 1, 2, 3] rfl rfl (by decide) (by decide) hk1 hFc hP1 hD1
        generalize H1 = H at hP hS ⊢
        have hP : va_P (dC, dI) vwCl [(x0, .inr (10, [.ref xTape, .ref xReader, .ref xBag, .ref xBld, .ref xAng, .ref xSum, .ref xPik, .int 0, .ref xHan, .ref xIns, .ref xShr, .ref xSta, .ref xTur])), (xSum, .inr (8, [.ref sM, .ref sP, .ref sA, .int 0])), (hH, .inl (cI, 7, (.inl (upd (upd (fun _ => 0) (0 : Int32).toNatClampNeg 0) (0 : Int32).toNatClampNeg 3)))), (hT, .inl (cJ, 7, (.inr (.inl (vp_updL (vp_updL (fun _ => 0) (0 : Int32).toNatClampNeg 1) (0 : Int32).toNatClampNeg 1)))))] H := hP
        have hD : va_D A [(x0, .inr (10, [.ref xTape, .ref xReader, .ref xBag, .ref xBld, .ref xAng, .ref xSum, .ref xPik, .int 0, .ref xHan, .ref xIns, .ref xShr, .ref xSta, .ref xTur])), (xSum, .inr (8, [.ref sM, .ref sP, .ref sA, .int 0])), (hH, .inl (cI, 7, (.inl (upd (upd (fun _ => 0) (0 : Int32).toNatClampNeg 0) (0 : Int32).toNatClampNeg 3)))), (hT, .inl (cJ, 7, (.inr (.inl (vp_updL (vp_updL (fun _ => 0) (0 : Int32).toNatClampNeg 1) (0 : Int32).toNatClampNeg 1)))))] := hD
        have hr_23 := hw
        obtain rfl : r_23 = 0 := hr_23
        refine W.widen (k := 0) (n := 0) (Nat.le_of_ble_eq_true rfl) (Nat.le_of_ble_eq_true rfl) ?_
        exact W.iret (v := 0) hx hb hr (fun t ht hW => ⟨⟨0, (), rfl, (by decide), trivial⟩, hS.F ht⟩) hS.2.2 dX10_relationOf_62
set_option maxHeartbeats 4000000 in
set_option maxRecDepth 100000 in
theorem c_X10_relationOf_10 (l : Launch) (dC : Nat → ClassId) (dI : Nat → Nat → Nat) (cB cI cJ : ClassId) (sz : Nat) (x0 xTape xReader xBag xBld xAng xSum xPik xHan xIns xShr xSta xTur sM sP sA hH hR hT hM : Nat) (p1 : Int32) : Met l yX10_relationOf wsX10_relationOf ({ frames := 12, cells := 0, slots := 0, locals := 400 }) (va_Pc [.ref x0, .int 10, .int p1] (fun U => U.heap.size = sz ∧ va_P (dC, dI) vwCl [(x0, .inr (10, [.ref xTape, .ref xReader, .ref xBag, .ref xBld, .ref xAng, .ref xSum, .ref xPik, .int 0, .ref xHan, .ref xIns, .ref xShr, .ref xSta, .ref xTur])), (xSum, .inr (8, [.ref sM, .ref sP, .ref sA, .int 0])), (xHan, .inr (3, [.int 0, .int 0, .int 0, .ref hH, .ref hR, .ref hT, .ref hM])), (hH, .inl (cI, 7, (.inl (fun _ => 0)))), (hT, .inl (cJ, 7, (.inr (.inl (fun _ => 0))))), (hM, .inl (cJ, 6, (.inr (.inl (fun _ => 0)))))] U.heap ∧ va_K (dC, dI) vwCl [(cB, .byte), (cI, .int), (cJ, .long)] U ∧ va_D (fun _ => True) [(x0, .inr (10, [.ref xTape, .ref xReader, .ref xBag, .ref xBld, .ref xAng, .ref xSum, .ref xPik, .int 0, .ref xHan, .ref xIns, .ref xShr, .ref xSta, .ref xTur])), (xSum, .inr (8, [.ref sM, .ref sP, .ref sA, .int 0])), (xHan, .inr (3, [.int 0, .int 0, .int 0, .ref hH, .ref hR, .ref hT, .ref hM])), (hH, .inl (cI, 7, (.inl (fun _ => 0)))), (hT, .inl (cJ, 7, (.inr (.inl (fun _ => 0))))), (hM, .inl (cJ, 6, (.inr (.inl (fun _ => 0)))))] ∧ va_Nw (.methodLinkNest RX3 62 yX10_gcd "ScissorsTable") U)) (va_Qi (fun (r : Int32) (_ : Unit) => r = sp_rel 10 p1) (fun _ _ => True) (va_A [(x0, .inr (10, [.ref xTape, .ref xReader, .ref xBag, .ref xBld, .ref xAng, .ref xSum, .ref xPik, .int 0, .ref xHan, .ref xIns, .ref xShr, .ref xSta, .ref xTur])), (xSum, .inr (8, [.ref sM, .ref sP, .ref sA, .int 0])), (xHan, .inr (3, [.int 0, .int 0, .int 0, .ref hH, .ref hR, .ref hT, .ref hM])), (hH, .inl (cI, 7, (.inl (fun _ => 0)))), (hT, .inl (cJ, 7, (.inr (.inl (fun _ => 0))))), (hM, .inl (cJ, 6, (.inr (.inl (fun _ => 0)))))] sz)) 0 0 (va_A [(x0, .inr (10, [.ref xTape, .ref xReader, .ref xBag, .ref xBld, .ref xAng, .ref xSum, .ref xPik, .int 0, .ref xHan, .ref xIns, .ref xShr, .ref xSta, .ref xTur])), (xSum, .inr (8, [.ref sM, .ref sP, .ref sA, .int 0])), (xHan, .inr (3, [.int 0, .int 0, .int 0, .ref hH, .ref hR, .ref hT, .ref hM])), (hH, .inl (cI, 7, (.inl (fun _ => 0)))), (hT, .inl (cJ, 7, (.inr (.inl (fun _ => 0))))), (hM, .inl (cJ, 6, (.inr (.inl (fun _ => 0)))))] sz) := by
  refine Met.ofW (cc := cX10_relationOf) (maxL := 3) (ret := (some .int)) (by decide) rfl ?_
  intro p e s m args below meth c s₁ B hml hv
  obtain ⟨rfl, hsz, hP, hK, hD0, hN0⟩ := hv
  have hx := B.exec
  have hb := B.bytes
  have hr := B.returns
  have hts := atoms_spec (ws := wsX10_relationOf) B.pre
  have hown : s.vm.findClass RX10 = some m.cls := findClass_of_methodNamed B.named
  have hlocks := B.notSynchronized
  have hiX10 : ∀ w ∈ u_ws RX10 TX10 13, w ∈ wsX10_relationOf := by decide +kernel
  subst hsz
  have hD := hD0.self (sz := s.heap.size)
  generalize hAe : va_A [(x0, .inr (10, [.ref xTape, .ref xReader, .ref xBag, .ref xBld, .ref xAng, .ref xSum, .ref xPik, .int 0, .ref xHan, .ref xIns, .ref xShr, .ref xSta, .ref xTur])), (xSum, .inr (8, [.ref sM, .ref sP, .ref sA, .int 0])), (xHan, .inr (3, [.int 0, .int 0, .int 0, .ref hH, .ref hR, .ref hT, .ref hM])), (hH, .inl (cI, 7, (.inl (fun _ => 0)))), (hT, .inl (cJ, 7, (.inr (.inl (fun _ => 0))))), (hM, .inl (cJ, 6, (.inr (.inl (fun _ => 0)))))] s.heap.size = A at hD ⊢
  have hA : ∀ q : Nat, s.heap.size ≤ q → A q := fun q h => by rw [← hAe]; exact Or.inr h
  have hS : va_S A s.heap s.heap [] := va_S.rf
  have hP : va_P (dC, dI) vwCl [(x0, .inr (10, [.ref xTape, .ref xReader, .ref xBag, .ref xBld, .ref xAng, .ref xSum, .ref xPik, .int 0, .ref xHan, .ref xIns, .ref xShr, .ref xSta, .ref xTur])), (xSum, .inr (8, [.ref sM, .ref sP, .ref sA, .int 0])), (xHan, .inr (3, [.int 0, .int 0, .int 0, .ref hH, .ref hR, .ref hT, .ref hM])), (hH, .inl (cI, 7, (.inl (fun _ => 0)))), (hT, .inl (cJ, 7, (.inr (.inl (fun _ => 0))))), (hM, .inl (cJ, 6, (.inr (.inl (fun _ => 0)))))] s.heap := hP
  have hl := lv_entry ([.ref x0, .int 10, .int p1]) (n := 3) (Nat.le_of_ble_eq_true rfl)
  rw [lg_entry_eq]
  generalize (lg_sl ([.ref x0, .int 10, .int p1]) ++ List.replicate (3 - (lg_sl ([.ref x0, .int 10, .int p1])).length) Slot.unset).toArray = ls at hl ⊢
  have hl : lv_has ls 3 [(0, .ref x0), (1, .int 10), (2, .int p1)] := hl
  refine lv_iload_n hx hb dX10_relationOf_0 rfl (lv_at hl 1 rfl) ?_
  have hPc := hP.sub (ws' := []) [] rfl
  have hDc := hD.sub (ws' := []) [] (by decide) rfl
  have hFc := va_free (wc := []) hD hS hA [] rfl
  refine va_calli (va_runS (As := [.int 10]) (rest := []) ⟨hx, hb, hml, hown, hts⟩ (c_X10_isSetOfSolids l dC dI cB cI cJ s.heap.size 10) (va_cwS 1 hts gX10_relationOf_X10_isSetOfSolids rfl rfl rfl (by decide +kernel) ⟨Nat.le_of_ble_eq_true rfl, Nat.le_of_ble_eq_true rfl⟩) ⟨fun a U g mk q => by obtain ⟨q0, q1, qP, qK, qD⟩ := q; exact ⟨q0, q1, qP, va_K.moved (u := U) (U := U.calling g mk a) (Vm.Alike.refl U.vm) qK, qD⟩, fun U hU hW => ⟨rfl, by rw [hU], by rw [hU]; exact hPc, va_K.moved hW.alike hK, hDc.weaken (fun _ _ _ _ => trivial)⟩⟩ rfl rfl hl.1 rfl (lv_room (Nat.le_of_ble_eq_true rfl)) dX10_relationOf_1 ⟨Nat.le_of_ble_eq_true rfl, Nat.le_of_ble_eq_true rfl⟩) hS (fun q _ h => hFc q h) hFc (fun r_1 u t H1 locs ht hvm hw hB hz1 hk1 hS => ?_)
  have hP1 : va_P (dC, dI) vwCl [] H1 := fun k q h => by simp at h
  have hD1 : va_D (va_A [] s.heap.size) [] := ⟨fun i j p q h => by simp at h, fun k q h => by simp at h⟩
  obtain ⟨hP, hD⟩ := va_join (wr := [(x0, .inr (10, [.ref xTape, .ref xReader, .ref xBag, .ref xBld, .ref xAng, .ref xSum, .ref xPik, .int 0, .ref xHan, .ref xIns, .ref xShr, .ref xSta, .ref xTur])), (xSum, .inr (8, [.ref sM, .ref sP, .ref sA, .int 0])), (xHan, .inr (3, [.int 0, .int 0, .int 0, .ref hH, .ref hR, .ref hT, .ref hM])), (hH, .inl (cI, 7, (.inl (fun _ => 0)))), (hT, .inl (cJ, 7, (.inr (.inl (fun _ => 0))))), (hM, .inl (cJ, 6, (.inr (.inl (fun _ => 0)))))]) (w1 := []) hP hD [] [0, 1, 2, 3, 4, 5] rfl rfl (by decide) (by decide) hk1 hFc hP1 hD1
  generalize H1 = H at hP hS ⊢
  have hP : va_P (dC, dI) vwCl [(x0, .inr (10, [.ref xTape, .ref xReader, .ref xBag, .ref xBld, .ref xAng, .ref xSum, .ref xPik, .int 0, .ref xHan, .ref xIns, .ref xShr, .ref xSta, .ref xTur])), (xSum, .inr (8, [.ref sM, .ref sP, .ref sA, .int 0])), (xHan, .inr (3, [.int 0, .int 0, .int 0, .ref hH, .ref hR, .ref hT, .ref hM])), (hH, .inl (cI, 7, (.inl (fun _ => 0)))), (hT, .inl (cJ, 7, (.inr (.inl (fun _ => 0))))), (hM, .inl (cJ, 6, (.inr (.inl (fun _ => 0)))))] H := hP
  have hD : va_D A [(x0, .inr (10, [.ref xTape, .ref xReader, .ref xBag, .ref xBld, .ref xAng, .ref xSum, .ref xPik, .int 0, .ref xHan, .ref xIns, .ref xShr, .ref xSta, .ref xTur])), (xSum, .inr (8, [.ref sM, .ref sP, .ref sA, .int 0])), (xHan, .inr (3, [.int 0, .int 0, .int 0, .ref hH, .ref hR, .ref hT, .ref hM])), (hH, .inl (cI, 7, (.inl (fun _ => 0)))), (hT, .inl (cJ, 7, (.inr (.inl (fun _ => 0))))), (hM, .inl (cJ, 6, (.inr (.inl (fun _ => 0)))))] := hD
  rcases hw with ⟨rfl, k_2⟩ | ⟨rfl, k_2⟩
  · refine lv_if_eq (tgt := 14) hx hb dX10_relationOf_4 (by decide) (fun _ => ?_) (fun c => absurd (by decide) c)
    refine lv_ldc (v := (-1000000)) hx hb hown (hts (.constant RX10 140 (-1000000)) (by decide +kernel)) dX10_relationOf_14 ?_
    refine W.widen (k := 0) (n := 0) (Nat.le_of_ble_eq_true rfl) (Nat.le_of_ble_eq_true rfl) ?_
    exact W.iret (v := (-1000000)) hx hb hr (fun t ht hW => ⟨⟨(-1000000), (), rfl, (absurd (by decide) k_2), trivial⟩, hS.F ht⟩) hS.2.2 dX10_relationOf_16
  · refine lv_if_eq (tgt := 14) hx hb dX10_relationOf_4 (by decide) (fun c => absurd c (by decide)) (fun _ => ?_)
    refine lv_iload_n hx hb dX10_relationOf_7 rfl (lv_at hl 2 rfl) ?_
    have hPc := hP.sub (ws' := []) [] rfl
    have hDc := hD.sub (ws' := []) [] (by decide) rfl
    have hFc := va_free (wc := []) hD hS hA [] rfl
    refine va_calli (va_runS (As := [.int p1]) (rest := []) ⟨hx, hb, hml, hown, hts⟩ (c_X10_isSolid l dC dI cB cI cJ H.size p1) (va_cwS 1 hts gX10_relationOf_X10_isSolid rfl rfl rfl (by decide +kernel) ⟨Nat.le_of_ble_eq_true rfl, Nat.le_of_ble_eq_true rfl⟩) ⟨fun a U g mk q => by obtain ⟨q0, q1, qP, qK, qD⟩ := q; exact ⟨q0, q1, qP, va_K.moved (u := U) (U := U.calling g mk a) (Vm.Alike.refl U.vm) qK, qD⟩, fun U hU hW => ⟨rfl, by rw [hU], by rw [hU]; exact hPc, va_K.moved hW.alike hK, hDc.weaken (fun _ _ _ _ => trivial)⟩⟩ rfl rfl hl.1 rfl (lv_room (Nat.le_of_ble_eq_true rfl)) dX10_relationOf_8 ⟨Nat.le_of_ble_eq_true rfl, Nat.le_of_ble_eq_true rfl⟩) hS (fun q _ h => hFc q h) hFc (fun r_3 u t H1 locs ht hvm hw hB hz1 hk1 hS => ?_)
    have hP1 : va_P (dC, dI) vwCl [] H1 := fun k q h => by simp at h
    have hD1 : va_D (va_A [] H.size) [] := ⟨fun i j p q h => by simp at h, fun k q h => by simp at h⟩
    obtain ⟨hP, hD⟩ := va_join (wr := [(x0, .inr (10, [.ref xTape, .ref xReader, .ref xBag, .ref xBld, .ref xAng, .ref xSum, .ref xPik, .int 0, .ref xHan, .ref xIns, .ref xShr, .ref xSta, .ref xTur])), (xSum, .inr (8, [.ref sM, .ref sP, .ref sA, .int 0])), (xHan, .inr (3, [.int 0, .int 0, .int 0, .ref hH, .ref hR, .ref hT, .ref hM])), (hH, .inl (cI, 7, (.inl (fun _ => 0)))), (hT, .inl (cJ, 7, (.inr (.inl (fun _ => 0))))), (hM, .inl (cJ, 6, (.inr (.inl (fun _ => 0)))))]) (w1 := []) hP hD [] [0, 1, 2, 3, 4, 5] rfl rfl (by decide) (by decide) hk1 hFc hP1 hD1
    generalize H1 = H at hP hS ⊢
    have hP : va_P (dC, dI) vwCl [(x0, .inr (10, [.ref xTape, .ref xReader, .ref xBag, .ref xBld, .ref xAng, .ref xSum, .ref xPik, .int 0, .ref xHan, .ref xIns, .ref xShr, .ref xSta, .ref xTur])), (xSum, .inr (8, [.ref sM, .ref sP, .ref sA, .int 0])), (xHan, .inr (3, [.int 0, .int 0, .int 0, .ref hH, .ref hR, .ref hT, .ref hM])), (hH, .inl (cI, 7, (.inl (fun _ => 0)))), (hT, .inl (cJ, 7, (.inr (.inl (fun _ => 0))))), (hM, .inl (cJ, 6, (.inr (.inl (fun _ => 0)))))] H := hP
    have hD : va_D A [(x0, .inr (10, [.ref xTape, .ref xReader, .ref xBag, .ref xBld, .ref xAng, .ref xSum, .ref xPik, .int 0, .ref xHan, .ref xIns, .ref xShr, .ref xSta, .ref xTur])), (xSum, .inr (8, [.ref sM, .ref sP, .ref sA, .int 0])), (xHan, .inr (3, [.int 0, .int 0, .int 0, .ref hH, .ref hR, .ref hT, .ref hM])), (hH, .inl (cI, 7, (.inl (fun _ => 0)))), (hT, .inl (cJ, 7, (.inr (.inl (fun _ => 0))))), (hM, .inl (cJ, 6, (.inr (.inl (fun _ => 0)))))] := hD
    rcases hw with ⟨rfl, k_4⟩ | ⟨rfl, k_4⟩
    · refine lv_if_ne (tgt := 17) hx hb dX10_relationOf_11 (by decide) (fun c => absurd (by decide) c) (fun _ => ?_)
      refine lv_ldc (v := (-1000000)) hx hb hown (hts (.constant RX10 140 (-1000000)) (by decide +kernel)) dX10_relationOf_14 ?_
      refine W.widen (k := 0) (n := 0) (Nat.le_of_ble_eq_true rfl) (Nat.le_of_ble_eq_true rfl) ?_
      exact W.iret (v := (-1000000)) hx hb hr (fun t ht hW => ⟨⟨(-1000000), (), rfl, (show (-1000000 : Int32) = sp_rel 10 p1 from (by unfold sp_rel; rw [if_neg (fun h9 => k_4 h9.2)])), trivial⟩, hS.F ht⟩) hS.2.2 dX10_relationOf_16
    · refine lv_if_ne (tgt := 17) hx hb dX10_relationOf_11 (by decide) (fun _ => ?_) (fun c => absurd c (by decide))
      refine lv_aload_n hx hb dX10_relationOf_17 rfl (lv_at hl 0 rfl) ?_
      refine lv_iload_n hx hb dX10_relationOf_18 rfl (lv_at hl 1 rfl) ?_
      have hPc := hP.sub (ws' := [(x0, .inr (10, [.ref xTape, .ref xReader, .ref xBag, .ref xBld, .ref xAng, .ref xSum, .ref xPik, .int 0, .ref xHan, .ref xIns, .ref xShr, .ref xSta, .ref xTur])), (xSum, .inr (8, [.ref sM, .ref sP, .ref sA, .int 0])), (xHan, .inr (3, [.int 0, .int 0, .int 0, .ref hH, .ref hR, .ref hT, .ref hM])), (hH, .inl (cI, 7, (.inl (fun _ => 0)))), (hT, .inl (cJ, 7, (.inr (.inl (fun _ => 0))))), (hM, .inl (cJ, 6, (.inr (.inl (fun _ => 0)))))]) [0, 1, 2, 3, 4, 5] rfl
      have hDc := hD.sub (ws' := [(x0, .inr (10, [.ref xTape, .ref xReader, .ref xBag, .ref xBld, .ref xAng, .ref xSum, .ref xPik, .int 0, .ref xHan, .ref xIns, .ref xShr, .ref xSta, .ref xTur])), (xSum, .inr (8, [.ref sM, .ref sP, .ref sA, .int 0])), (xHan, .inr (3, [.int 0, .int 0, .int 0, .ref hH, .ref hR, .ref hT, .ref hM])), (hH, .inl (cI, 7, (.inl (fun _ => 0)))), (hT, .inl (cJ, 7, (.inr (.inl (fun _ => 0))))), (hM, .inl (cJ, 6, (.inr (.inl (fun _ => 0)))))]) [0, 1, 2, 3, 4, 5] (by decide) rfl
      have hFc := va_free (wc := [(x0, .inr (10, [.ref xTape, .ref xReader, .ref xBag, .ref xBld, .ref xAng, .ref xSum, .ref xPik, .int 0, .ref xHan, .ref xIns, .ref xShr, .ref xSta, .ref xTur])), (xSum, .inr (8, [.ref sM, .ref sP, .ref sA, .int 0])), (xHan, .inr (3, [.int 0, .int 0, .int 0, .ref hH, .ref hR, .ref hT, .ref hM])), (hH, .inl (cI, 7, (.inl (fun _ => 0)))), (hT, .inl (cJ, 7, (.inr (.inl (fun _ => 0))))), (hM, .inl (cJ, 6, (.inr (.inl (fun _ => 0)))))]) hD hS hA [0, 1, 2, 3, 4, 5] rfl
      refine va_callv (va_runV (As := [.int 10]) (rest := []) ⟨hx, hb, hml, hown, hts⟩ (c_X10_hangSolids_10 l dC dI cB cI cJ H.size x0 xTape xReader xBag xBld xAng xSum xPik xHan xIns xShr xSta xTur sM sP sA hH hR hT hM (fun _ => 0) (fun _ => 0)) (cwV 1 hts gX10_relationOf_X10_hangSolids rfl rfl rfl (by decide +kernel) ⟨Nat.le_of_ble_eq_true rfl, Nat.le_of_ble_eq_true rfl⟩) ⟨fun a U g mk q => by obtain ⟨q0, q1, qP, qK, qD, qN0⟩ := q; exact ⟨q0, q1, qP, va_K.moved (u := U) (U := U.calling g mk a) (Vm.Alike.refl U.vm) qK, qD, va_Nw.same rfl rfl qN0⟩, va_recv hK hP (ci := 10) (q0 := 0) rfl rfl, fun U hU hW => ⟨rfl, by rw [hU], by rw [hU]; exact hPc, va_K.moved hW.alike hK, hDc.weaken (fun _ _ _ _ => trivial), va_Nw.warmM hW hN0⟩⟩ rfl rfl hl.1 rfl (lv_room (Nat.le_of_ble_eq_true rfl)) dX10_relationOf_19 ⟨Nat.le_of_ble_eq_true rfl, Nat.le_of_ble_eq_true rfl⟩) hS (fun q _ h => hFc q h) hFc (fun u t H1 locs ht hvm hw hB hz1 hk1 hS => ?_)
      obtain ⟨hP1, hK1, hD1⟩ := hB
      rw [ht] at hP1
      obtain ⟨hP, hD⟩ := va_join (wr := []) (w1 := [(x0, .inr (10, [.ref xTape, .ref xReader, .ref xBag, .ref xBld, .ref xAng, .ref xSum, .ref xPik, .int 0, .ref xHan, .ref xIns, .ref xShr, .ref xSta, .ref xTur])), (xHan, .inr (3, [.int 0, .int 2, .int 1, .ref hH, .ref hR, .ref hT, .ref hM])), (xSum, .inr (8, [.ref sM, .ref sP, .ref sA, .int 0])), (hH, .inl (cI, 7, (.inl (upd (upd (fun _ => 0) (0 : Int32).toNatClampNeg 1) (0 : Int32).toNatClampNeg 3)))), (hT, .inl (cJ, 7, (.inr (.inl (vp_updL (vp_updL (fun _ => 0) (0 : Int32).toNatClampNeg 1) (0 : Int32).toNatClampNeg 1))))), (hM, .inl (cJ, 6, (.inr (.inl (vp_updL (fun _ => 0) (0 : Int32).toNatClampNeg 1)))))]) hP hD [0, 1, 2, 3, 4, 5] [] rfl rfl (by decide) (by decide) hk1 hFc hP1 hD1
      generalize H1 = H at hP hS ⊢
      have hP : va_P (dC, dI) vwCl [(x0, .inr (10, [.ref xTape, .ref xReader, .ref xBag, .ref xBld, .ref xAng, .ref xSum, .ref xPik, .int 0, .ref xHan, .ref xIns, .ref xShr, .ref xSta, .ref xTur])), (xHan, .inr (3, [.int 0, .int 2, .int 1, .ref hH, .ref hR, .ref hT, .ref hM])), (xSum, .inr (8, [.ref sM, .ref sP, .ref sA, .int 0])), (hH, .inl (cI, 7, (.inl (upd (upd (fun _ => 0) (0 : Int32).toNatClampNeg 1) (0 : Int32).toNatClampNeg 3)))), (hT, .inl (cJ, 7, (.inr (.inl (vp_updL (vp_updL (fun _ => 0) (0 : Int32).toNatClampNeg 1) (0 : Int32).toNatClampNeg 1))))), (hM, .inl (cJ, 6, (.inr (.inl (vp_updL (fun _ => 0) (0 : Int32).toNatClampNeg 1)))))] H := hP
      have hD : va_D A [(x0, .inr (10, [.ref xTape, .ref xReader, .ref xBag, .ref xBld, .ref xAng, .ref xSum, .ref xPik, .int 0, .ref xHan, .ref xIns, .ref xShr, .ref xSta, .ref xTur])), (xHan, .inr (3, [.int 0, .int 2, .int 1, .ref hH, .ref hR, .ref hT, .ref hM])), (xSum, .inr (8, [.ref sM, .ref sP, .ref sA, .int 0])), (hH, .inl (cI, 7, (.inl (upd (upd (fun _ => 0) (0 : Int32).toNatClampNeg 1) (0 : Int32).toNatClampNeg 3)))), (hT, .inl (cJ, 7, (.inr (.inl (vp_updL (vp_updL (fun _ => 0) (0 : Int32).toNatClampNeg 1) (0 : Int32).toNatClampNeg 1))))), (hM, .inl (cJ, 6, (.inr (.inl (vp_updL (fun _ => 0) (0 : Int32).toNatClampNeg 1)))))] := hD
      refine lv_aload_n hx hb dX10_relationOf_22 rfl (lv_at hl 0 rfl) ?_
      refine va_get (D := (dC, dI)) (ci := 10) (v := .ref xHan) (C := RX10) (T := TX10) (N := 13) hx hb hts hiX10 hown hK hP 0 rfl rfl 8 (by decide) (hts (.fieldLink RX10 61 "ScissorsTable" "hang" "LScissorsTable$Hang;") (by decide +kernel)) (fun _ h9 => h9) rfl dX10_relationOf_23 ?_
      have hPc := hP.sub (ws' := [(xHan, .inr (3, [.int 0, .int 2, .int 1, .ref hH, .ref hR, .ref hT, .ref hM])), (hM, .inl (cJ, 6, (.inr (.inl (vp_updL (fun _ => 0) (0 : Int32).toNatClampNeg 1)))))]) [1, 5] rfl
      have hDc := hD.sub (ws' := [(xHan, .inr (3, [.int 0, .int 2, .int 1, .ref hH, .ref hR, .ref hT, .ref hM])), (hM, .inl (cJ, 6, (.inr (.inl (vp_updL (fun _ => 0) (0 : Int32).toNatClampNeg 1)))))]) [1, 5] (by decide) rfl
      have hFc := va_free (wc := [(xHan, .inr (3, [.int 0, .int 2, .int 1, .ref hH, .ref hR, .ref hT, .ref hM])), (hM, .inl (cJ, 6, (.inr (.inl (vp_updL (fun _ => 0) (0 : Int32).toNatClampNeg 1)))))]) hD hS hA [1, 5] rfl
      refine va_calli (va_runV (As := []) (rest := []) ⟨hx, hb, hml, hown, hts⟩ (c_X3_canTell_t2 l dC dI cB cI cJ H.size xHan hH hR hT hM) (cwV 0 hts gX10_relationOf_X3_canTell rfl rfl rfl (by decide +kernel) ⟨Nat.le_of_ble_eq_true rfl, Nat.le_of_ble_eq_true rfl⟩) ⟨fun a U g mk q => by obtain ⟨q0, q1, qP, qK, qD⟩ := q; exact ⟨q0, q1, qP, va_K.moved (u := U) (U := U.calling g mk a) (Vm.Alike.refl U.vm) qK, qD⟩, va_recv hK hP (ci := 3) (q0 := 1) rfl rfl, fun U hU hW => ⟨rfl, by rw [hU], by rw [hU]; exact hPc, va_K.moved hW.alike hK, hDc.weaken (fun _ _ _ _ => trivial)⟩⟩ rfl rfl hl.1 rfl (lv_room (Nat.le_of_ble_eq_true rfl)) dX10_relationOf_26 ⟨Nat.le_of_ble_eq_true rfl, Nat.le_of_ble_eq_true rfl⟩) hS (fun q _ h => hFc q h) hFc (fun r_5 u t H1 locs ht hvm hw hB hz1 hk1 hS => ?_)
      obtain ⟨hP1, hK1, hD1⟩ := hB
      rw [ht] at hP1
      obtain ⟨hP, hD⟩ := va_join (wr := [(x0, .inr (10, [.ref xTape, .ref xReader, .ref xBag, .ref xBld, .ref xAng, .ref xSum, .ref xPik, .int 0, .ref xHan, .ref xIns, .ref xShr, .ref xSta, .ref xTur])), (xSum, .inr (8, [.ref sM, .ref sP, .ref sA, .int 0])), (hH, .inl (cI, 7, (.inl (upd (upd (fun _ => 0) (0 : Int32).toNatClampNeg 1) (0 : Int32).toNatClampNeg 3)))), (hT, .inl (cJ, 7, (.inr (.inl (vp_updL (vp_updL (fun _ => 0) (0 : Int32).toNatClampNeg 1) (0 : Int32).toNatClampNeg 1)))))]) (w1 := [(xHan, .inr (3, [.int 0, .int 2, .int 1, .ref hH, .ref hR, .ref hT, .ref hM])), (hM, .inl (cJ, 6, (.inr (.inl (vp_updL (fun _ => 0) (0 : Int32).toNatClampNeg 1)))))]) hP hD [1, 5] [0, 2, 3, 4] rfl rfl (by decide) (by decide) hk1 hFc hP1 hD1
      generalize H1 = H at hP hS ⊢
      have hP : va_P (dC, dI) vwCl [(x0, .inr (10, [.ref xTape, .ref xReader, .ref xBag, .ref xBld, .ref xAng, .ref xSum, .ref xPik, .int 0, .ref xHan, .ref xIns, .ref xShr, .ref xSta, .ref xTur])), (xSum, .inr (8, [.ref sM, .ref sP, .ref sA, .int 0])), (hH, .inl (cI, 7, (.inl (upd (upd (fun _ => 0) (0 : Int32).toNatClampNeg 1) (0 : Int32).toNatClampNeg 3)))), (hT, .inl (cJ, 7, (.inr (.inl (vp_updL (vp_updL (fun _ => 0) (0 : Int32).toNatClampNeg 1) (0 : Int32).toNatClampNeg 1))))), (xHan, .inr (3, [.int 0, .int 2, .int 1, .ref hH, .ref hR, .ref hT, .ref hM])), (hM, .inl (cJ, 6, (.inr (.inl (vp_updL (fun _ => 0) (0 : Int32).toNatClampNeg 1)))))] H := hP
      have hD : va_D A [(x0, .inr (10, [.ref xTape, .ref xReader, .ref xBag, .ref xBld, .ref xAng, .ref xSum, .ref xPik, .int 0, .ref xHan, .ref xIns, .ref xShr, .ref xSta, .ref xTur])), (xSum, .inr (8, [.ref sM, .ref sP, .ref sA, .int 0])), (hH, .inl (cI, 7, (.inl (upd (upd (fun _ => 0) (0 : Int32).toNatClampNeg 1) (0 : Int32).toNatClampNeg 3)))), (hT, .inl (cJ, 7, (.inr (.inl (vp_updL (vp_updL (fun _ => 0) (0 : Int32).toNatClampNeg 1) (0 : Int32).toNatClampNeg 1))))), (xHan, .inr (3, [.int 0, .int 2, .int 1, .ref hH, .ref hR, .ref hT, .ref hM])), (hM, .inl (cJ, 6, (.inr (.inl (vp_updL (fun _ => 0) (0 : Int32).toNatClampNeg 1)))))] := hD
      have hr_5 := hw
      obtain rfl : r_5 = 1 := hr_5
      refine lv_if_ne (tgt := 35) hx hb dX10_relationOf_29 (by decide) (fun _ => ?_) (fun c => absurd c (by decide))
      rcases nk_split4 p1 (by (try simp only [nk_lt, nk_le, nk_eq, nk_wd, nk_c0, nk_c1, nk_c2, nk_c3, nk_c4, nk_c5, nk_c6, nk_c15, nk_c16, nk_c24, nk_c47, nk_c48, nk_c600, nk_c1728, nk_m1, nk_l0, nk_l1, nk_l2, nk_l3, nk_l5, nk_l15, nk_l24, nk_l47] at k_4); omega) with rfl | rfl | rfl | rfl
      · refine lv_iload_n hx hb dX10_relationOf_35 rfl (lv_at hl 1 rfl) ?_
        refine lv_iload_n hx hb dX10_relationOf_36 rfl (lv_at hl 2 rfl) ?_
        refine lv_ishr hx hb dX10_relationOf_37 ?_
        refine lv_topi (fun x_6 ex_6 => ?_)
        obtain rfl : x_6 = 10 := ex_6.trans (by first | rfl | decide)
        refine lv_iconst (v := 1) hx hb dX10_relationOf_38 (by decide) ?_
        refine lv_iand hx hb dX10_relationOf_39 ?_
        refine lv_topi (fun x_7 ex_7 => ?_)
        obtain rfl : x_7 = 0 := ex_7.trans (by first | rfl | decide)
        refine lv_if_ne (tgt := 45) hx hb dX10_relationOf_40 (by decide) (fun c => absurd (by decide) c) (fun _ => ?_)
        refine lv_iconst (v := 0) hx hb dX10_relationOf_43 (by decide) ?_
        refine W.widen (k := 0) (n := 0) (Nat.le_of_ble_eq_true rfl) (Nat.le_of_ble_eq_true rfl) ?_
        exact W.iret (v := 0) hx hb hr (fun t ht hW => ⟨⟨0, (), rfl, (by decide), trivial⟩, hS.F ht⟩) hS.2.2 dX10_relationOf_44
      · refine lv_iload_n hx hb dX10_relationOf_35 rfl (lv_at hl 1 rfl) ?_
        refine lv_iload_n hx hb dX10_relationOf_36 rfl (lv_at hl 2 rfl) ?_
        refine lv_ishr hx hb dX10_relationOf_37 ?_
        refine lv_topi (fun x_8 ex_8 => ?_)
        obtain rfl : x_8 = 5 := ex_8.trans (by first | rfl | decide)
        refine lv_iconst (v := 1) hx hb dX10_relationOf_38 (by decide) ?_
        refine lv_iand hx hb dX10_relationOf_39 ?_
        refine lv_topi (fun x_9 ex_9 => ?_)
        obtain rfl : x_9 = 1 := ex_9.trans (by first | rfl | decide)
        refine lv_if_ne (tgt := 45) hx hb dX10_relationOf_40 (by decide) (fun _ => ?_) (fun c => absurd c (by decide))
        refine lv_aload_n hx hb dX10_relationOf_45 rfl (lv_at hl 0 rfl) ?_
        refine va_get (D := (dC, dI)) (ci := 10) (v := .ref xHan) (C := RX10) (T := TX10) (N := 13) hx hb hts hiX10 hown hK hP 0 rfl rfl 8 (by decide) (hts (.fieldLink RX10 61 "ScissorsTable" "hang" "LScissorsTable$Hang;") (by decide +kernel)) (fun _ h9 => h9) rfl dX10_relationOf_46 ?_
        refine lv_iload_n hx hb dX10_relationOf_49 rfl (lv_at hl 1 rfl) ?_
        refine lv_iconst (v := 1) hx hb dX10_relationOf_50 (by decide) ?_
        refine lv_iload_n hx hb dX10_relationOf_51 rfl (lv_at hl 2 rfl) ?_
        refine lv_ishl hx hb dX10_relationOf_52 ?_
        refine lv_topi (fun x_10 ex_10 => ?_)
        obtain rfl : x_10 = 2 := ex_10.trans (by first | rfl | decide)
        refine lv_iconst (v := 1) hx hb dX10_relationOf_53 (by decide) ?_
        refine lv_isub hx hb dX10_relationOf_54 ?_
        refine lv_topi (fun x_11 ex_11 => ?_)
        obtain rfl : x_11 = 1 := ex_11.trans (by first | rfl | decide)
        refine lv_iand hx hb dX10_relationOf_55 ?_
        refine lv_topi (fun x_12 ex_12 => ?_)
        obtain rfl : x_12 = 0 := ex_12.trans (by first | rfl | decide)
        have hPc := hP.sub (ws' := []) [] rfl
        have hDc := hD.sub (ws' := []) [] (by decide) rfl
        have hFc := va_free (wc := []) hD hS hA [] rfl
        refine va_calli (va_runS (As := [.int 0]) (rest := [.ref xHan]) ⟨hx, hb, hml, hown, hts⟩ (c_J6_bitCount_0f7a4_0 l dC dI cB cI cJ H.size ) (va_cwS 1 hts gX10_relationOf_J6_bitCount_0f7a4 rfl rfl rfl (by decide +kernel) ⟨Nat.le_of_ble_eq_true rfl, Nat.le_of_ble_eq_true rfl⟩) ⟨fun a U g mk q => by obtain ⟨q0, q1, qP, qK, qD⟩ := q; exact ⟨q0, q1, qP, va_K.moved (u := U) (U := U.calling g mk a) (Vm.Alike.refl U.vm) qK, qD⟩, fun U hU hW => ⟨rfl, by rw [hU], by rw [hU]; exact hPc, va_K.moved hW.alike hK, hDc.weaken (fun _ _ _ _ => trivial)⟩⟩ rfl rfl hl.1 rfl (lv_room (Nat.le_of_ble_eq_true rfl)) dX10_relationOf_56 ⟨Nat.le_of_ble_eq_true rfl, Nat.le_of_ble_eq_true rfl⟩) hS (fun q _ h => hFc q h) hFc (fun r_13 u t H1 locs ht hvm hw hB hz1 hk1 hS => ?_)
        have hP1 : va_P (dC, dI) vwCl [] H1 := fun k q h => by simp at h
        have hD1 : va_D (va_A [] H.size) [] := ⟨fun i j p q h => by simp at h, fun k q h => by simp at h⟩
        obtain ⟨hP, hD⟩ := va_join (wr := [(x0, .inr (10, [.ref xTape, .ref xReader, .ref xBag, .ref xBld, .ref xAng, .ref xSum, .ref xPik, .int 0, .ref xHan, .ref xIns, .ref xShr, .ref xSta, .ref xTur])), (xSum, .inr (8, [.ref sM, .ref sP, .ref sA, .int 0])), (hH, .inl (cI, 7, (.inl (upd (upd (fun _ => 0) (0 : Int32).toNatClampNeg 1) (0 : Int32).toNatClampNeg 3)))), (hT, .inl (cJ, 7, (.inr (.inl (vp_updL (vp_updL (fun _ => 0) (0 : Int32).toNatClampNeg 1) (0 : Int32).toNatClampNeg 1))))), (xHan, .inr (3, [.int 0, .int 2, .int 1, .ref hH, .ref hR, .ref hT, .ref hM])), (hM, .inl (cJ, 6, (.inr (.inl (vp_updL (fun _ => 0) (0 : Int32).toNatClampNeg 1)))))]) (w1 := []) hP hD [] [0, 1, 2, 3, 4, 5] rfl rfl (by decide) (by decide) hk1 hFc hP1 hD1
        generalize H1 = H at hP hS ⊢
        have hP : va_P (dC, dI) vwCl [(x0, .inr (10, [.ref xTape, .ref xReader, .ref xBag, .ref xBld, .ref xAng, .ref xSum, .ref xPik, .int 0, .ref xHan, .ref xIns, .ref xShr, .ref xSta, .ref xTur])), (xSum, .inr (8, [.ref sM, .ref sP, .ref sA, .int 0])), (hH, .inl (cI, 7, (.inl (upd (upd (fun _ => 0) (0 : Int32).toNatClampNeg 1) (0 : Int32).toNatClampNeg 3)))), (hT, .inl (cJ, 7, (.inr (.inl (vp_updL (vp_updL (fun _ => 0) (0 : Int32).toNatClampNeg 1) (0 : Int32).toNatClampNeg 1))))), (xHan, .inr (3, [.int 0, .int 2, .int 1, .ref hH, .ref hR, .ref hT, .ref hM])), (hM, .inl (cJ, 6, (.inr (.inl (vp_updL (fun _ => 0) (0 : Int32).toNatClampNeg 1)))))] H := hP
        have hD : va_D A [(x0, .inr (10, [.ref xTape, .ref xReader, .ref xBag, .ref xBld, .ref xAng, .ref xSum, .ref xPik, .int 0, .ref xHan, .ref xIns, .ref xShr, .ref xSta, .ref xTur])), (xSum, .inr (8, [.ref sM, .ref sP, .ref sA, .int 0])), (hH, .inl (cI, 7, (.inl (upd (upd (fun _ => 0) (0 : Int32).toNatClampNeg 1) (0 : Int32).toNatClampNeg 3)))), (hT, .inl (cJ, 7, (.inr (.inl (vp_updL (vp_updL (fun _ => 0) (0 : Int32).toNatClampNeg 1) (0 : Int32).toNatClampNeg 1))))), (xHan, .inr (3, [.int 0, .int 2, .int 1, .ref hH, .ref hR, .ref hT, .ref hM])), (hM, .inl (cJ, 6, (.inr (.inl (vp_updL (fun _ => 0) (0 : Int32).toNatClampNeg 1)))))] := hD
        have hr_13 := hw
        obtain rfl : r_13 = 0 := hr_13
        have hPc := hP.sub (ws' := [(xHan, .inr (3, [.int 0, .int 2, .int 1, .ref hH, .ref hR, .ref hT, .ref hM])), (hM, .inl (cJ, 6, (.inr (.inl (vp_updL (fun _ => 0) (0 : Int32).toNatClampNeg 1)))))]) [4, 5] rfl
        have hDc := hD.sub (ws' := [(xHan, .inr (3, [.int 0, .int 2, .int 1, .ref hH, .ref hR, .ref hT, .ref hM])), (hM, .inl (cJ, 6, (.inr (.inl (vp_updL (fun _ => 0) (0 : Int32).toNatClampNeg 1)))))]) [4, 5] (by decide) rfl
        have hFc := va_free (wc := [(xHan, .inr (3, [.int 0, .int 2, .int 1, .ref hH, .ref hR, .ref hT, .ref hM])), (hM, .inl (cJ, 6, (.inr (.inl (vp_updL (fun _ => 0) (0 : Int32).toNatClampNeg 1)))))]) hD hS hA [4, 5] rfl
        refine va_calli (va_runV (As := [.int 0]) (rest := []) ⟨hx, hb, hml, hown, hts⟩ (c_X3_timesOf_t2_0 l dC dI cB cI cJ H.size xHan hH hR hT hM) (cwV 1 hts gX10_relationOf_X3_timesOf rfl rfl rfl (by decide +kernel) ⟨Nat.le_of_ble_eq_true rfl, Nat.le_of_ble_eq_true rfl⟩) ⟨fun a U g mk q => by obtain ⟨q0, q1, qP, qK, qD⟩ := q; exact ⟨q0, q1, qP, va_K.moved (u := U) (U := U.calling g mk a) (Vm.Alike.refl U.vm) qK, qD⟩, va_recv hK hP (ci := 3) (q0 := 4) rfl rfl, fun U hU hW => ⟨rfl, by rw [hU], by rw [hU]; exact hPc, va_K.moved hW.alike hK, hDc.weaken (fun _ _ _ _ => trivial)⟩⟩ rfl rfl hl.1 rfl (lv_room (Nat.le_of_ble_eq_true rfl)) dX10_relationOf_59 ⟨Nat.le_of_ble_eq_true rfl, Nat.le_of_ble_eq_true rfl⟩) hS (fun q _ h => hFc q h) hFc (fun r_14 u t H1 locs ht hvm hw hB hz1 hk1 hS => ?_)
        have hP1 : va_P (dC, dI) vwCl [] H1 := fun k q h => by simp at h
        have hD1 : va_D (va_A [(xHan, .inr (3, [.int 0, .int 2, .int 1, .ref hH, .ref hR, .ref hT, .ref hM])), (hM, .inl (cJ, 6, (.inr (.inl (vp_updL (fun _ => 0) (0 : Int32).toNatClampNeg 1)))))] H.size) [] := ⟨fun i j p q h => by simp at h, fun k q h => by simp at h⟩
        obtain ⟨hP, hD⟩ := va_join (wr := [(x0, .inr (10, [.ref xTape, .ref xReader, .ref xBag, .ref xBld, .ref xAng, .ref xSum, .ref xPik, .int 0, .ref xHan, .ref xIns, .ref xShr, .ref xSta, .ref xTur])), (xSum, .inr (8, [.ref sM, .ref sP, .ref sA, .int 0])), (hH, .inl (cI, 7, (.inl (upd (upd (fun _ => 0) (0 : Int32).toNatClampNeg 1) (0 : Int32).toNatClampNeg 3)))), (hT, .inl (cJ, 7, (.inr (.inl (vp_updL (vp_updL (fun _ => 0) (0 : Int32).toNatClampNeg 1) (0 : Int32).toNatClampNeg 1)))))]) (w1 := []) hP hD [4, 5] [0, 1, 2, 3] rfl rfl (by decide) (by decide) hk1 hFc hP1 hD1
        generalize H1 = H at hP hS ⊢
        have hP : va_P (dC, dI) vwCl [(x0, .inr (10, [.ref xTape, .ref xReader, .ref xBag, .ref xBld, .ref xAng, .ref xSum, .ref xPik, .int 0, .ref xHan, .ref xIns, .ref xShr, .ref xSta, .ref xTur])), (xSum, .inr (8, [.ref sM, .ref sP, .ref sA, .int 0])), (hH, .inl (cI, 7, (.inl (upd (upd (fun _ => 0) (0 : Int32).toNatClampNeg 1) (0 : Int32).toNatClampNeg 3)))), (hT, .inl (cJ, 7, (.inr (.inl (vp_updL (vp_updL (fun _ => 0) (0 : Int32).toNatClampNeg 1) (0 : Int32).toNatClampNeg 1)))))] H := hP
        have hD : va_D A [(x0, .inr (10, [.ref xTape, .ref xReader, .ref xBag, .ref xBld, .ref xAng, .ref xSum, .ref xPik, .int 0, .ref xHan, .ref xIns, .ref xShr, .ref xSta, .ref xTur])), (xSum, .inr (8, [.ref sM, .ref sP, .ref sA, .int 0])), (hH, .inl (cI, 7, (.inl (upd (upd (fun _ => 0) (0 : Int32).toNatClampNeg 1) (0 : Int32).toNatClampNeg 3)))), (hT, .inl (cJ, 7, (.inr (.inl (vp_updL (vp_updL (fun _ => 0) (0 : Int32).toNatClampNeg 1) (0 : Int32).toNatClampNeg 1)))))] := hD
        have hr_14 := hw
        obtain rfl : r_14 = 1 := hr_14
        refine W.widen (k := 0) (n := 0) (Nat.le_of_ble_eq_true rfl) (Nat.le_of_ble_eq_true rfl) ?_
        exact W.iret (v := 1) hx hb hr (fun t ht hW => ⟨⟨1, (), rfl, (by decide), trivial⟩, hS.F ht⟩) hS.2.2 dX10_relationOf_62
      · refine lv_iload_n hx hb dX10_relationOf_35 rfl (lv_at hl 1 rfl) ?_
        refine lv_iload_n hx hb dX10_relationOf_36 rfl (lv_at hl 2 rfl) ?_
        refine lv_ishr hx hb dX10_relationOf_37 ?_
        refine lv_topi (fun x_15 ex_15 => ?_)
        obtain rfl : x_15 = 2 := ex_15.trans (by first | rfl | decide)
        refine lv_iconst (v := 1) hx hb dX10_relationOf_38 (by decide) ?_
        refine lv_iand hx hb dX10_relationOf_39 ?_
        refine lv_topi (fun x_16 ex_16 => ?_)
        obtain rfl : x_16 = 0 := ex_16.trans (by first | rfl | decide)
        refine lv_if_ne (tgt := 45) hx hb dX10_relationOf_40 (by decide) (fun c => absurd (by decide) c) (fun _ => ?_)
        refine lv_iconst (v := 0) hx hb dX10_relationOf_43 (by decide) ?_
        refine W.widen (k := 0) (n := 0) (Nat.le_of_ble_eq_true rfl) (Nat.le_of_ble_eq_true rfl) ?_
        exact W.iret (v := 0) hx hb hr (fun t ht hW => ⟨⟨0, (), rfl, (by decide), trivial⟩, hS.F ht⟩) hS.2.2 dX10_relationOf_44
      · refine lv_iload_n hx hb dX10_relationOf_35 rfl (lv_at hl 1 rfl) ?_
        refine lv_iload_n hx hb dX10_relationOf_36 rfl (lv_at hl 2 rfl) ?_
        refine lv_ishr hx hb dX10_relationOf_37 ?_
        refine lv_topi (fun x_17 ex_17 => ?_)
        obtain rfl : x_17 = 1 := ex_17.trans (by first | rfl | decide)
        refine lv_iconst (v := 1) hx hb dX10_relationOf_38 (by decide) ?_
        refine lv_iand hx hb dX10_relationOf_39 ?_
        refine lv_topi (fun x_18 ex_18 => ?_)
        obtain rfl : x_18 = 1 := ex_18.trans (by first | rfl | decide)
        refine lv_if_ne (tgt := 45) hx hb dX10_relationOf_40 (by decide) (fun _ => ?_) (fun c => absurd c (by decide))
        refine lv_aload_n hx hb dX10_relationOf_45 rfl (lv_at hl 0 rfl) ?_
        refine va_get (D := (dC, dI)) (ci := 10) (v := .ref xHan) (C := RX10) (T := TX10) (N := 13) hx hb hts hiX10 hown hK hP 0 rfl rfl 8 (by decide) (hts (.fieldLink RX10 61 "ScissorsTable" "hang" "LScissorsTable$Hang;") (by decide +kernel)) (fun _ h9 => h9) rfl dX10_relationOf_46 ?_
        refine lv_iload_n hx hb dX10_relationOf_49 rfl (lv_at hl 1 rfl) ?_
        refine lv_iconst (v := 1) hx hb dX10_relationOf_50 (by decide) ?_
        refine lv_iload_n hx hb dX10_relationOf_51 rfl (lv_at hl 2 rfl) ?_
        refine lv_ishl hx hb dX10_relationOf_52 ?_
        refine lv_topi (fun x_19 ex_19 => ?_)
        obtain rfl : x_19 = 8 := ex_19.trans (by first | rfl | decide)
        refine lv_iconst (v := 1) hx hb dX10_relationOf_53 (by decide) ?_
        refine lv_isub hx hb dX10_relationOf_54 ?_
        refine lv_topi (fun x_20 ex_20 => ?_)
        obtain rfl : x_20 = 7 := ex_20.trans (by first | rfl | decide)
        refine lv_iand hx hb dX10_relationOf_55 ?_
        refine lv_topi (fun x_21 ex_21 => ?_)
        obtain rfl : x_21 = 2 := ex_21.trans (by first | rfl | decide)
        have hPc := hP.sub (ws' := []) [] rfl
        have hDc := hD.sub (ws' := []) [] (by decide) rfl
        have hFc := va_free (wc := []) hD hS hA [] rfl
        refine va_calli (va_runS (As := [.int 2]) (rest := [.ref xHan]) ⟨hx, hb, hml, hown, hts⟩ (c_J6_bitCount_0f7a4_2 l dC dI cB cI cJ H.size ) (va_cwS 1 hts gX10_relationOf_J6_bitCount_0f7a4 rfl rfl rfl (by decide +kernel) ⟨Nat.le_of_ble_eq_true rfl, Nat.le_of_ble_eq_true rfl⟩) ⟨fun a U g mk q => by obtain ⟨q0, q1, qP, qK, qD⟩ := q; exact ⟨q0, q1, qP, va_K.moved (u := U) (U := U.calling g mk a) (Vm.Alike.refl U.vm) qK, qD⟩, fun U hU hW => ⟨rfl, by rw [hU], by rw [hU]; exact hPc, va_K.moved hW.alike hK, hDc.weaken (fun _ _ _ _ => trivial)⟩⟩ rfl rfl hl.1 rfl (lv_room (Nat.le_of_ble_eq_true rfl)) dX10_relationOf_56 ⟨Nat.le_of_ble_eq_true rfl, Nat.le_of_ble_eq_true rfl⟩) hS (fun q _ h => hFc q h) hFc (fun r_22 u t H1 locs ht hvm hw hB hz1 hk1 hS => ?_)
        have hP1 : va_P (dC, dI) vwCl [] H1 := fun k q h => by simp at h
        have hD1 : va_D (va_A [] H.size) [] := ⟨fun i j p q h => by simp at h, fun k q h => by simp at h⟩
        obtain ⟨hP, hD⟩ := va_join (wr := [(x0, .inr (10, [.ref xTape, .ref xReader, .ref xBag, .ref xBld, .ref xAng, .ref xSum, .ref xPik, .int 0, .ref xHan, .ref xIns, .ref xShr, .ref xSta, .ref xTur])), (xSum, .inr (8, [.ref sM, .ref sP, .ref sA, .int 0])), (hH, .inl (cI, 7, (.inl (upd (upd (fun _ => 0) (0 : Int32).toNatClampNeg 1) (0 : Int32).toNatClampNeg 3)))), (hT, .inl (cJ, 7, (.inr (.inl (vp_updL (vp_updL (fun _ => 0) (0 : Int32).toNatClampNeg 1) (0 : Int32).toNatClampNeg 1))))), (xHan, .inr (3, [.int 0, .int 2, .int 1, .ref hH, .ref hR, .ref hT, .ref hM])), (hM, .inl (cJ, 6, (.inr (.inl (vp_updL (fun _ => 0) (0 : Int32).toNatClampNeg 1)))))]) (w1 := []) hP hD [] [0, 1, 2, 3, 4, 5] rfl rfl (by decide) (by decide) hk1 hFc hP1 hD1
        generalize H1 = H at hP hS ⊢
        have hP : va_P (dC, dI) vwCl [(x0, .inr (10, [.ref xTape, .ref xReader, .ref xBag, .ref xBld, .ref xAng, .ref xSum, .ref xPik, .int 0, .ref xHan, .ref xIns, .ref xShr, .ref xSta, .ref xTur])), (xSum, .inr (8, [.ref sM, .ref sP, .ref sA, .int 0])), (hH, .inl (cI, 7, (.inl (upd (upd (fun _ => 0) (0 : Int32).toNatClampNeg 1) (0 : Int32).toNatClampNeg 3)))), (hT, .inl (cJ, 7, (.inr (.inl (vp_updL (vp_updL (fun _ => 0) (0 : Int32).toNatClampNeg 1) (0 : Int32).toNatClampNeg 1))))), (xHan, .inr (3, [.int 0, .int 2, .int 1, .ref hH, .ref hR, .ref hT, .ref hM])), (hM, .inl (cJ, 6, (.inr (.inl (vp_updL (fun _ => 0) (0 : Int32).toNatClampNeg 1)))))] H := hP
        have hD : va_D A [(x0, .inr (10, [.ref xTape, .ref xReader, .ref xBag, .ref xBld, .ref xAng, .ref xSum, .ref xPik, .int 0, .ref xHan, .ref xIns, .ref xShr, .ref xSta, .ref xTur])), (xSum, .inr (8, [.ref sM, .ref sP, .ref sA, .int 0])), (hH, .inl (cI, 7, (.inl (upd (upd (fun _ => 0) (0 : Int32).toNatClampNeg 1) (0 : Int32).toNatClampNeg 3)))), (hT, .inl (cJ, 7, (.inr (.inl (vp_updL (vp_updL (fun _ => 0) (0 : Int32).toNatClampNeg 1) (0 : Int32).toNatClampNeg 1))))), (xHan, .inr (3, [.int 0, .int 2, .int 1, .ref hH, .ref hR, .ref hT, .ref hM])), (hM, .inl (cJ, 6, (.inr (.inl (vp_updL (fun _ => 0) (0 : Int32).toNatClampNeg 1)))))] := hD
        have hr_22 := hw
        obtain rfl : r_22 = 1 := hr_22
        have hPc := hP.sub (ws' := [(xHan, .inr (3, [.int 0, .int 2, .int 1, .ref hH, .ref hR, .ref hT, .ref hM])), (hM, .inl (cJ, 6, (.inr (.inl (vp_updL (fun _ => 0) (0 : Int32).toNatClampNeg 1)))))]) [4, 5] rfl
        have hDc := hD.sub (ws' := [(xHan, .inr (3, [.int 0, .int 2, .int 1, .ref hH, .ref hR, .ref hT, .ref hM])), (hM, .inl (cJ, 6, (.inr (.inl (vp_updL (fun _ => 0) (0 : Int32).toNatClampNeg 1)))))]) [4, 5] (by decide) rfl
        have hFc := va_free (wc := [(xHan, .inr (3, [.int 0, .int 2, .int 1, .ref hH, .ref hR, .ref hT, .ref hM])), (hM, .inl (cJ, 6, (.inr (.inl (vp_updL (fun _ => 0) (0 : Int32).toNatClampNeg 1)))))]) hD hS hA [4, 5] rfl
        refine va_calli (va_runV (As := [.int 1]) (rest := []) ⟨hx, hb, hml, hown, hts⟩ (c_X3_timesOf_t2_1 l dC dI cB cI cJ H.size xHan hH hR hT hM) (cwV 1 hts gX10_relationOf_X3_timesOf rfl rfl rfl (by decide +kernel) ⟨Nat.le_of_ble_eq_true rfl, Nat.le_of_ble_eq_true rfl⟩) ⟨fun a U g mk q => by obtain ⟨q0, q1, qP, qK, qD⟩ := q; exact ⟨q0, q1, qP, va_K.moved (u := U) (U := U.calling g mk a) (Vm.Alike.refl U.vm) qK, qD⟩, va_recv hK hP (ci := 3) (q0 := 4) rfl rfl, fun U hU hW => ⟨rfl, by rw [hU], by rw [hU]; exact hPc, va_K.moved hW.alike hK, hDc.weaken (fun _ _ _ _ => trivial)⟩⟩ rfl rfl hl.1 rfl (lv_room (Nat.le_of_ble_eq_true rfl)) dX10_relationOf_59 ⟨Nat.le_of_ble_eq_true rfl, Nat.le_of_ble_eq_true rfl⟩) hS (fun q _ h => hFc q h) hFc (fun r_23 u t H1 locs ht hvm hw hB hz1 hk1 hS => ?_)
        have hP1 : va_P (dC, dI) vwCl [] H1 := fun k q h => by simp at h
        have hD1 : va_D (va_A [(xHan, .inr (3, [.int 0, .int 2, .int 1, .ref hH, .ref hR, .ref hT, .ref hM])), (hM, .inl (cJ, 6, (.inr (.inl (vp_updL (fun _ => 0) (0 : Int32).toNatClampNeg 1)))))] H.size) [] := ⟨fun i j p q h => by simp at h, fun k q h => by simp at h⟩
        obtain ⟨hP, hD⟩ := va_join (wr := [(x0, .inr (10, [.ref xTape, .ref xReader, .ref xBag, .ref xBld, .ref xAng, .ref xSum, .ref xPik, .int 0, .ref xHan, .ref xIns, .ref xShr, .ref xSta, .ref xTur])), (xSum, .inr (8, [.ref sM, .ref sP, .ref sA, .int 0])), (hH, .inl (cI, 7, (.inl (upd (upd (fun _ => 0) (0 : Int32).toNatClampNeg 1) (0 : Int32).toNatClampNeg 3)))), (hT, .inl (cJ, 7, (.inr (.inl (vp_updL (vp_updL (fun _ => 0) (0 : Int32).toNatClampNeg 1) (0 : Int32).toNatClampNeg 1)))))]) (w1 := []) hP hD [4, 5] [0, 1, 2, 3] rfl rfl (by decide) (by decide) hk1 hFc hP1 hD1
        generalize H1 = H at hP hS ⊢
        have hP : va_P (dC, dI) vwCl [(x0, .inr (10, [.ref xTape, .ref xReader, .ref xBag, .ref xBld, .ref xAng, .ref xSum, .ref xPik, .int 0, .ref xHan, .ref xIns, .ref xShr, .ref xSta, .ref xTur])), (xSum, .inr (8, [.ref sM, .ref sP, .ref sA, .int 0])), (hH, .inl (cI, 7, (.inl (upd (upd (fun _ => 0) (0 : Int32).toNatClampNeg 1) (0 : Int32).toNatClampNeg 3)))), (hT, .inl (cJ, 7, (.inr (.inl (vp_updL (vp_updL (fun _ => 0) (0 : Int32).toNatClampNeg 1) (0 : Int32).toNatClampNeg 1)))))] H := hP
        have hD : va_D A [(x0, .inr (10, [.ref xTape, .ref xReader, .ref xBag, .ref xBld, .ref xAng, .ref xSum, .ref xPik, .int 0, .ref xHan, .ref xIns, .ref xShr, .ref xSta, .ref xTur])), (xSum, .inr (8, [.ref sM, .ref sP, .ref sA, .int 0])), (hH, .inl (cI, 7, (.inl (upd (upd (fun _ => 0) (0 : Int32).toNatClampNeg 1) (0 : Int32).toNatClampNeg 3)))), (hT, .inl (cJ, 7, (.inr (.inl (vp_updL (vp_updL (fun _ => 0) (0 : Int32).toNatClampNeg 1) (0 : Int32).toNatClampNeg 1)))))] := hD
        have hr_23 := hw
        obtain rfl : r_23 = 0 := hr_23
        refine W.widen (k := 0) (n := 0) (Nat.le_of_ble_eq_true rfl) (Nat.le_of_ble_eq_true rfl) ?_
        exact W.iret (v := 0) hx hb hr (fun t ht hW => ⟨⟨0, (), rfl, (by decide), trivial⟩, hS.F ht⟩) hS.2.2 dX10_relationOf_62
set_option maxHeartbeats 4000000 in
set_option maxRecDepth 100000 in
theorem c_X10_relationOf_11 (l : Launch) (dC : Nat → ClassId) (dI : Nat → Nat → Nat) (cB cI cJ : ClassId) (sz : Nat) (x0 xTape xReader xBag xBld xAng xSum xPik xHan xIns xShr xSta xTur sM sP sA hH hR hT hM : Nat) (p1 : Int32) : Met l yX10_relationOf wsX10_relationOf ({ frames := 12, cells := 0, slots := 0, locals := 400 }) (va_Pc [.ref x0, .int 11, .int p1] (fun U => U.heap.size = sz ∧ va_P (dC, dI) vwCl [(x0, .inr (10, [.ref xTape, .ref xReader, .ref xBag, .ref xBld, .ref xAng, .ref xSum, .ref xPik, .int 0, .ref xHan, .ref xIns, .ref xShr, .ref xSta, .ref xTur])), (xSum, .inr (8, [.ref sM, .ref sP, .ref sA, .int 0])), (xHan, .inr (3, [.int 0, .int 0, .int 0, .ref hH, .ref hR, .ref hT, .ref hM])), (hH, .inl (cI, 7, (.inl (fun _ => 0)))), (hT, .inl (cJ, 7, (.inr (.inl (fun _ => 0))))), (hM, .inl (cJ, 6, (.inr (.inl (fun _ => 0)))))] U.heap ∧ va_K (dC, dI) vwCl [(cB, .byte), (cI, .int), (cJ, .long)] U ∧ va_D (fun _ => True) [(x0, .inr (10, [.ref xTape, .ref xReader, .ref xBag, .ref xBld, .ref xAng, .ref xSum, .ref xPik, .int 0, .ref xHan, .ref xIns, .ref xShr, .ref xSta, .ref xTur])), (xSum, .inr (8, [.ref sM, .ref sP, .ref sA, .int 0])), (xHan, .inr (3, [.int 0, .int 0, .int 0, .ref hH, .ref hR, .ref hT, .ref hM])), (hH, .inl (cI, 7, (.inl (fun _ => 0)))), (hT, .inl (cJ, 7, (.inr (.inl (fun _ => 0))))), (hM, .inl (cJ, 6, (.inr (.inl (fun _ => 0)))))] ∧ va_Nw (.methodLinkNest RX3 62 yX10_gcd "ScissorsTable") U)) (va_Qi (fun (r : Int32) (_ : Unit) => r = sp_rel 11 p1) (fun _ _ => True) (va_A [(x0, .inr (10, [.ref xTape, .ref xReader, .ref xBag, .ref xBld, .ref xAng, .ref xSum, .ref xPik, .int 0, .ref xHan, .ref xIns, .ref xShr, .ref xSta, .ref xTur])), (xSum, .inr (8, [.ref sM, .ref sP, .ref sA, .int 0])), (xHan, .inr (3, [.int 0, .int 0, .int 0, .ref hH, .ref hR, .ref hT, .ref hM])), (hH, .inl (cI, 7, (.inl (fun _ => 0)))), (hT, .inl (cJ, 7, (.inr (.inl (fun _ => 0))))), (hM, .inl (cJ, 6, (.inr (.inl (fun _ => 0)))))] sz)) 0 0 (va_A [(x0, .inr (10, [.ref xTape, .ref xReader, .ref xBag, .ref xBld, .ref xAng, .ref xSum, .ref xPik, .int 0, .ref xHan, .ref xIns, .ref xShr, .ref xSta, .ref xTur])), (xSum, .inr (8, [.ref sM, .ref sP, .ref sA, .int 0])), (xHan, .inr (3, [.int 0, .int 0, .int 0, .ref hH, .ref hR, .ref hT, .ref hM])), (hH, .inl (cI, 7, (.inl (fun _ => 0)))), (hT, .inl (cJ, 7, (.inr (.inl (fun _ => 0))))), (hM, .inl (cJ, 6, (.inr (.inl (fun _ => 0)))))] sz) := by
  refine Met.ofW (cc := cX10_relationOf) (maxL := 3) (ret := (some .int)) (by decide) rfl ?_
  intro p e s m args below meth c s₁ B hml hv
  obtain ⟨rfl, hsz, hP, hK, hD0, hN0⟩ := hv
  have hx := B.exec
  have hb := B.bytes
  have hr := B.returns
  have hts := atoms_spec (ws := wsX10_relationOf) B.pre
  have hown : s.vm.findClass RX10 = some m.cls := findClass_of_methodNamed B.named
  have hlocks := B.notSynchronized
  have hiX10 : ∀ w ∈ u_ws RX10 TX10 13, w ∈ wsX10_relationOf := by decide +kernel
  subst hsz
  have hD := hD0.self (sz := s.heap.size)
  generalize hAe : va_A [(x0, .inr (10, [.ref xTape, .ref xReader, .ref xBag, .ref xBld, .ref xAng, .ref xSum, .ref xPik, .int 0, .ref xHan, .ref xIns, .ref xShr, .ref xSta, .ref xTur])), (xSum, .inr (8, [.ref sM, .ref sP, .ref sA, .int 0])), (xHan, .inr (3, [.int 0, .int 0, .int 0, .ref hH, .ref hR, .ref hT, .ref hM])), (hH, .inl (cI, 7, (.inl (fun _ => 0)))), (hT, .inl (cJ, 7, (.inr (.inl (fun _ => 0))))), (hM, .inl (cJ, 6, (.inr (.inl (fun _ => 0)))))] s.heap.size = A at hD ⊢
  have hA : ∀ q : Nat, s.heap.size ≤ q → A q := fun q h => by rw [← hAe]; exact Or.inr h
  have hS : va_S A s.heap s.heap [] := va_S.rf
  have hP : va_P (dC, dI) vwCl [(x0, .inr (10, [.ref xTape, .ref xReader, .ref xBag, .ref xBld, .ref xAng, .ref xSum, .ref xPik, .int 0, .ref xHan, .ref xIns, .ref xShr, .ref xSta, .ref xTur])), (xSum, .inr (8, [.ref sM, .ref sP, .ref sA, .int 0])), (xHan, .inr (3, [.int 0, .int 0, .int 0, .ref hH, .ref hR, .ref hT, .ref hM])), (hH, .inl (cI, 7, (.inl (fun _ => 0)))), (hT, .inl (cJ, 7, (.inr (.inl (fun _ => 0))))), (hM, .inl (cJ, 6, (.inr (.inl (fun _ => 0)))))] s.heap := hP
  have hl := lv_entry ([.ref x0, .int 11, .int p1]) (n := 3) (Nat.le_of_ble_eq_true rfl)
  rw [lg_entry_eq]
  generalize (lg_sl ([.ref x0, .int 11, .int p1]) ++ List.replicate (3 - (lg_sl ([.ref x0, .int 11, .int p1])).length) Slot.unset).toArray = ls at hl ⊢
  have hl : lv_has ls 3 [(0, .ref x0), (1, .int 11), (2, .int p1)] := hl
  refine lv_iload_n hx hb dX10_relationOf_0 rfl (lv_at hl 1 rfl) ?_
  have hPc := hP.sub (ws' := []) [] rfl
  have hDc := hD.sub (ws' := []) [] (by decide) rfl
  have hFc := va_free (wc := []) hD hS hA [] rfl
  refine va_calli (va_runS (As := [.int 11]) (rest := []) ⟨hx, hb, hml, hown, hts⟩ (c_X10_isSetOfSolids l dC dI cB cI cJ s.heap.size 11) (va_cwS 1 hts gX10_relationOf_X10_isSetOfSolids rfl rfl rfl (by decide +kernel) ⟨Nat.le_of_ble_eq_true rfl, Nat.le_of_ble_eq_true rfl⟩) ⟨fun a U g mk q => by obtain ⟨q0, q1, qP, qK, qD⟩ := q; exact ⟨q0, q1, qP, va_K.moved (u := U) (U := U.calling g mk a) (Vm.Alike.refl U.vm) qK, qD⟩, fun U hU hW => ⟨rfl, by rw [hU], by rw [hU]; exact hPc, va_K.moved hW.alike hK, hDc.weaken (fun _ _ _ _ => trivial)⟩⟩ rfl rfl hl.1 rfl (lv_room (Nat.le_of_ble_eq_true rfl)) dX10_relationOf_1 ⟨Nat.le_of_ble_eq_true rfl, Nat.le_of_ble_eq_true rfl⟩) hS (fun q _ h => hFc q h) hFc (fun r_1 u t H1 locs ht hvm hw hB hz1 hk1 hS => ?_)
  have hP1 : va_P (dC, dI) vwCl [] H1 := fun k q h => by simp at h
  have hD1 : va_D (va_A [] s.heap.size) [] := ⟨fun i j p q h => by simp at h, fun k q h => by simp at h⟩
  obtain ⟨hP, hD⟩ := va_join (wr := [(x0, .inr (10, [.ref xTape, .ref xReader, .ref xBag, .ref xBld, .ref xAng, .ref xSum, .ref xPik, .int 0, .ref xHan, .ref xIns, .ref xShr, .ref xSta, .ref xTur])), (xSum, .inr (8, [.ref sM, .ref sP, .ref sA, .int 0])), (xHan, .inr (3, [.int 0, .int 0, .int 0, .ref hH, .ref hR, .ref hT, .ref hM])), (hH, .inl (cI, 7, (.inl (fun _ => 0)))), (hT, .inl (cJ, 7, (.inr (.inl (fun _ => 0))))), (hM, .inl (cJ, 6, (.inr (.inl (fun _ => 0)))))]) (w1 := []) hP hD [] [0, 1, 2, 3, 4, 5] rfl rfl (by decide) (by decide) hk1 hFc hP1 hD1
  generalize H1 = H at hP hS ⊢
  have hP : va_P (dC, dI) vwCl [(x0, .inr (10, [.ref xTape, .ref xReader, .ref xBag, .ref xBld, .ref xAng, .ref xSum, .ref xPik, .int 0, .ref xHan, .ref xIns, .ref xShr, .ref xSta, .ref xTur])), (xSum, .inr (8, [.ref sM, .ref sP, .ref sA, .int 0])), (xHan, .inr (3, [.int 0, .int 0, .int 0, .ref hH, .ref hR, .ref hT, .ref hM])), (hH, .inl (cI, 7, (.inl (fun _ => 0)))), (hT, .inl (cJ, 7, (.inr (.inl (fun _ => 0))))), (hM, .inl (cJ, 6, (.inr (.inl (fun _ => 0)))))] H := hP
  have hD : va_D A [(x0, .inr (10, [.ref xTape, .ref xReader, .ref xBag, .ref xBld, .ref xAng, .ref xSum, .ref xPik, .int 0, .ref xHan, .ref xIns, .ref xShr, .ref xSta, .ref xTur])), (xSum, .inr (8, [.ref sM, .ref sP, .ref sA, .int 0])), (xHan, .inr (3, [.int 0, .int 0, .int 0, .ref hH, .ref hR, .ref hT, .ref hM])), (hH, .inl (cI, 7, (.inl (fun _ => 0)))), (hT, .inl (cJ, 7, (.inr (.inl (fun _ => 0))))), (hM, .inl (cJ, 6, (.inr (.inl (fun _ => 0)))))] := hD
  rcases hw with ⟨rfl, k_2⟩ | ⟨rfl, k_2⟩
  · refine lv_if_eq (tgt := 14) hx hb dX10_relationOf_4 (by decide) (fun _ => ?_) (fun c => absurd (by decide) c)
    refine lv_ldc (v := (-1000000)) hx hb hown (hts (.constant RX10 140 (-1000000)) (by decide +kernel)) dX10_relationOf_14 ?_
    refine W.widen (k := 0) (n := 0) (Nat.le_of_ble_eq_true rfl) (Nat.le_of_ble_eq_true rfl) ?_
    exact W.iret (v := (-1000000)) hx hb hr (fun t ht hW => ⟨⟨(-1000000), (), rfl, (absurd (by decide) k_2), trivial⟩, hS.F ht⟩) hS.2.2 dX10_relationOf_16
  · refine lv_if_eq (tgt := 14) hx hb dX10_relationOf_4 (by decide) (fun c => absurd c (by decide)) (fun _ => ?_)
    refine lv_iload_n hx hb dX10_relationOf_7 rfl (lv_at hl 2 rfl) ?_
    have hPc := hP.sub (ws' := []) [] rfl
    have hDc := hD.sub (ws' := []) [] (by decide) rfl
    have hFc := va_free (wc := []) hD hS hA [] rfl
    refine va_calli (va_runS (As := [.int p1]) (rest := []) ⟨hx, hb, hml, hown, hts⟩ (c_X10_isSolid l dC dI cB cI cJ H.size p1) (va_cwS 1 hts gX10_relationOf_X10_isSolid rfl rfl rfl (by decide +kernel) ⟨Nat.le_of_ble_eq_true rfl, Nat.le_of_ble_eq_true rfl⟩) ⟨fun a U g mk q => by obtain ⟨q0, q1, qP, qK, qD⟩ := q; exact ⟨q0, q1, qP, va_K.moved (u := U) (U := U.calling g mk a) (Vm.Alike.refl U.vm) qK, qD⟩, fun U hU hW => ⟨rfl, by rw [hU], by rw [hU]; exact hPc, va_K.moved hW.alike hK, hDc.weaken (fun _ _ _ _ => trivial)⟩⟩ rfl rfl hl.1 rfl (lv_room (Nat.le_of_ble_eq_true rfl)) dX10_relationOf_8 ⟨Nat.le_of_ble_eq_true rfl, Nat.le_of_ble_eq_true rfl⟩) hS (fun q _ h => hFc q h) hFc (fun r_3 u t H1 locs ht hvm hw hB hz1 hk1 hS => ?_)
    have hP1 : va_P (dC, dI) vwCl [] H1 := fun k q h => by simp at h
    have hD1 : va_D (va_A [] H.size) [] := ⟨fun i j p q h => by simp at h, fun k q h => by simp at h⟩
    obtain ⟨hP, hD⟩ := va_join (wr := [(x0, .inr (10, [.ref xTape, .ref xReader, .ref xBag, .ref xBld, .ref xAng, .ref xSum, .ref xPik, .int 0, .ref xHan, .ref xIns, .ref xShr, .ref xSta, .ref xTur])), (xSum, .inr (8, [.ref sM, .ref sP, .ref sA, .int 0])), (xHan, .inr (3, [.int 0, .int 0, .int 0, .ref hH, .ref hR, .ref hT, .ref hM])), (hH, .inl (cI, 7, (.inl (fun _ => 0)))), (hT, .inl (cJ, 7, (.inr (.inl (fun _ => 0))))), (hM, .inl (cJ, 6, (.inr (.inl (fun _ => 0)))))]) (w1 := []) hP hD [] [0, 1, 2, 3, 4, 5] rfl rfl (by decide) (by decide) hk1 hFc hP1 hD1
    generalize H1 = H at hP hS ⊢
    have hP : va_P (dC, dI) vwCl [(x0, .inr (10, [.ref xTape, .ref xReader, .ref xBag, .ref xBld, .ref xAng, .ref xSum, .ref xPik, .int 0, .ref xHan, .ref xIns, .ref xShr, .ref xSta, .ref xTur])), (xSum, .inr (8, [.ref sM, .ref sP, .ref sA, .int 0])), (xHan, .inr (3, [.int 0, .int 0, .int 0, .ref hH, .ref hR, .ref hT, .ref hM])), (hH, .inl (cI, 7, (.inl (fun _ => 0)))), (hT, .inl (cJ, 7, (.inr (.inl (fun _ => 0))))), (hM, .inl (cJ, 6, (.inr (.inl (fun _ => 0)))))] H := hP
    have hD : va_D A [(x0, .inr (10, [.ref xTape, .ref xReader, .ref xBag, .ref xBld, .ref xAng, .ref xSum, .ref xPik, .int 0, .ref xHan, .ref xIns, .ref xShr, .ref xSta, .ref xTur])), (xSum, .inr (8, [.ref sM, .ref sP, .ref sA, .int 0])), (xHan, .inr (3, [.int 0, .int 0, .int 0, .ref hH, .ref hR, .ref hT, .ref hM])), (hH, .inl (cI, 7, (.inl (fun _ => 0)))), (hT, .inl (cJ, 7, (.inr (.inl (fun _ => 0))))), (hM, .inl (cJ, 6, (.inr (.inl (fun _ => 0)))))] := hD
    rcases hw with ⟨rfl, k_4⟩ | ⟨rfl, k_4⟩
    · refine lv_if_ne (tgt := 17) hx hb dX10_relationOf_11 (by decide) (fun c => absurd (by decide) c) (fun _ => ?_)
      refine lv_ldc (v := (-1000000)) hx hb hown (hts (.constant RX10 140 (-1000000)) (by decide +kernel)) dX10_relationOf_14 ?_
      refine W.widen (k := 0) (n := 0) (Nat.le_of_ble_eq_true rfl) (Nat.le_of_ble_eq_true rfl) ?_
      exact W.iret (v := (-1000000)) hx hb hr (fun t ht hW => ⟨⟨(-1000000), (), rfl, (show (-1000000 : Int32) = sp_rel 11 p1 from (by unfold sp_rel; rw [if_neg (fun h9 => k_4 h9.2)])), trivial⟩, hS.F ht⟩) hS.2.2 dX10_relationOf_16
    · refine lv_if_ne (tgt := 17) hx hb dX10_relationOf_11 (by decide) (fun _ => ?_) (fun c => absurd c (by decide))
      refine lv_aload_n hx hb dX10_relationOf_17 rfl (lv_at hl 0 rfl) ?_
      refine lv_iload_n hx hb dX10_relationOf_18 rfl (lv_at hl 1 rfl) ?_
      have hPc := hP.sub (ws' := [(x0, .inr (10, [.ref xTape, .ref xReader, .ref xBag, .ref xBld, .ref xAng, .ref xSum, .ref xPik, .int 0, .ref xHan, .ref xIns, .ref xShr, .ref xSta, .ref xTur])), (xSum, .inr (8, [.ref sM, .ref sP, .ref sA, .int 0])), (xHan, .inr (3, [.int 0, .int 0, .int 0, .ref hH, .ref hR, .ref hT, .ref hM])), (hH, .inl (cI, 7, (.inl (fun _ => 0)))), (hT, .inl (cJ, 7, (.inr (.inl (fun _ => 0))))), (hM, .inl (cJ, 6, (.inr (.inl (fun _ => 0)))))]) [0, 1, 2, 3, 4, 5] rfl
      have hDc := hD.sub (ws' := [(x0, .inr (10, [.ref xTape, .ref xReader, .ref xBag, .ref xBld, .ref xAng, .ref xSum, .ref xPik, .int 0, .ref xHan, .ref xIns, .ref xShr, .ref xSta, .ref xTur])), (xSum, .inr (8, [.ref sM, .ref sP, .ref sA, .int 0])), (xHan, .inr (3, [.int 0, .int 0, .int 0, .ref hH, .ref hR, .ref hT, .ref hM])), (hH, .inl (cI, 7, (.inl (fun _ => 0)))), (hT, .inl (cJ, 7, (.inr (.inl (fun _ => 0))))), (hM, .inl (cJ, 6, (.inr (.inl (fun _ => 0)))))]) [0, 1, 2, 3, 4, 5] (by decide) rfl
      have hFc := va_free (wc := [(x0, .inr (10, [.ref xTape, .ref xReader, .ref xBag, .ref xBld, .ref xAng, .ref xSum, .ref xPik, .int 0, .ref xHan, .ref xIns, .ref xShr, .ref xSta, .ref xTur])), (xSum, .inr (8, [.ref sM, .ref sP, .ref sA, .int 0])), (xHan, .inr (3, [.int 0, .int 0, .int 0, .ref hH, .ref hR, .ref hT, .ref hM])), (hH, .inl (cI, 7, (.inl (fun _ => 0)))), (hT, .inl (cJ, 7, (.inr (.inl (fun _ => 0))))), (hM, .inl (cJ, 6, (.inr (.inl (fun _ => 0)))))]) hD hS hA [0, 1, 2, 3, 4, 5] rfl
      refine va_callv (va_runV (As := [.int 11]) (rest := []) ⟨hx, hb, hml, hown, hts⟩ (c_X10_hangSolids_11 l dC dI cB cI cJ H.size x0 xTape xReader xBag xBld xAng xSum xPik xHan xIns xShr xSta xTur sM sP sA hH hR hT hM (fun _ => 0) (fun _ => 0)) (cwV 1 hts gX10_relationOf_X10_hangSolids rfl rfl rfl (by decide +kernel) ⟨Nat.le_of_ble_eq_true rfl, Nat.le_of_ble_eq_true rfl⟩) ⟨fun a U g mk q => by obtain ⟨q0, q1, qP, qK, qD, qN0⟩ := q; exact ⟨q0, q1, qP, va_K.moved (u := U) (U := U.calling g mk a) (Vm.Alike.refl U.vm) qK, qD, va_Nw.same rfl rfl qN0⟩, va_recv hK hP (ci := 10) (q0 := 0) rfl rfl, fun U hU hW => ⟨rfl, by rw [hU], by rw [hU]; exact hPc, va_K.moved hW.alike hK, hDc.weaken (fun _ _ _ _ => trivial), va_Nw.warmM hW hN0⟩⟩ rfl rfl hl.1 rfl (lv_room (Nat.le_of_ble_eq_true rfl)) dX10_relationOf_19 ⟨Nat.le_of_ble_eq_true rfl, Nat.le_of_ble_eq_true rfl⟩) hS (fun q _ h => hFc q h) hFc (fun u t H1 locs ht hvm hw hB hz1 hk1 hS => ?_)
      obtain ⟨hP1, hK1, hD1⟩ := hB
      rw [ht] at hP1
      obtain ⟨hP, hD⟩ := va_join (wr := []) (w1 := [(x0, .inr (10, [.ref xTape, .ref xReader, .ref xBag, .ref xBld, .ref xAng, .ref xSum, .ref xPik, .int 0, .ref xHan, .ref xIns, .ref xShr, .ref xSta, .ref xTur])), (xHan, .inr (3, [.int 0, .int 3, .int 1, .ref hH, .ref hR, .ref hT, .ref hM])), (xSum, .inr (8, [.ref sM, .ref sP, .ref sA, .int 0])), (hH, .inl (cI, 7, (.inl (upd (upd (upd (fun _ => 0) (0 : Int32).toNatClampNeg 0) (0 : Int32).toNatClampNeg 1) (0 : Int32).toNatClampNeg 3)))), (hT, .inl (cJ, 7, (.inr (.inl (vp_updL (vp_updL (vp_updL (fun _ => 0) (0 : Int32).toNatClampNeg 1) (0 : Int32).toNatClampNeg 1) (0 : Int32).toNatClampNeg 1))))), (hM, .inl (cJ, 6, (.inr (.inl (vp_updL (fun _ => 0) (0 : Int32).toNatClampNeg 1)))))]) hP hD [0, 1, 2, 3, 4, 5] [] rfl rfl (by decide) (by decide) hk1 hFc hP1 hD1
      generalize H1 = H at hP hS ⊢
      have hP : va_P (dC, dI) vwCl [(x0, .inr (10, [.ref xTape, .ref xReader, .ref xBag, .ref xBld, .ref xAng, .ref xSum, .ref xPik, .int 0, .ref xHan, .ref xIns, .ref xShr, .ref xSta, .ref xTur])), (xHan, .inr (3, [.int 0, .int 3, .int 1, .ref hH, .ref hR, .ref hT, .ref hM])), (xSum, .inr (8, [.ref sM, .ref sP, .ref sA, .int 0])), (hH, .inl (cI, 7, (.inl (upd (upd (upd (fun _ => 0) (0 : Int32).toNatClampNeg 0) (0 : Int32).toNatClampNeg 1) (0 : Int32).toNatClampNeg 3)))), (hT, .inl (cJ, 7, (.inr (.inl (vp_updL (vp_updL (vp_updL (fun _ => 0) (0 : Int32).toNatClampNeg 1) (0 : Int32).toNatClampNeg 1) (0 : Int32).toNatClampNeg 1))))), (hM, .inl (cJ, 6, (.inr (.inl (vp_updL (fun _ => 0) (0 : Int32).toNatClampNeg 1)))))] H := hP
      have hD : va_D A [(x0, .inr (10, [.ref xTape, .ref xReader, .ref xBag, .ref xBld, .ref xAng, .ref xSum, .ref xPik, .int 0, .ref xHan, .ref xIns, .ref xShr, .ref xSta, .ref xTur])), (xHan, .inr (3, [.int 0, .int 3, .int 1, .ref hH, .ref hR, .ref hT, .ref hM])), (xSum, .inr (8, [.ref sM, .ref sP, .ref sA, .int 0])), (hH, .inl (cI, 7, (.inl (upd (upd (upd (fun _ => 0) (0 : Int32).toNatClampNeg 0) (0 : Int32).toNatClampNeg 1) (0 : Int32).toNatClampNeg 3)))), (hT, .inl (cJ, 7, (.inr (.inl (vp_updL (vp_updL (vp_updL (fun _ => 0) (0 : Int32).toNatClampNeg 1) (0 : Int32).toNatClampNeg 1) (0 : Int32).toNatClampNeg 1))))), (hM, .inl (cJ, 6, (.inr (.inl (vp_updL (fun _ => 0) (0 : Int32).toNatClampNeg 1)))))] := hD
      refine lv_aload_n hx hb dX10_relationOf_22 rfl (lv_at hl 0 rfl) ?_
      refine va_get (D := (dC, dI)) (ci := 10) (v := .ref xHan) (C := RX10) (T := TX10) (N := 13) hx hb hts hiX10 hown hK hP 0 rfl rfl 8 (by decide) (hts (.fieldLink RX10 61 "ScissorsTable" "hang" "LScissorsTable$Hang;") (by decide +kernel)) (fun _ h9 => h9) rfl dX10_relationOf_23 ?_
      have hPc := hP.sub (ws' := [(xHan, .inr (3, [.int 0, .int 3, .int 1, .ref hH, .ref hR, .ref hT, .ref hM])), (hM, .inl (cJ, 6, (.inr (.inl (vp_updL (fun _ => 0) (0 : Int32).toNatClampNeg 1)))))]) [1, 5] rfl
      have hDc := hD.sub (ws' := [(xHan, .inr (3, [.int 0, .int 3, .int 1, .ref hH, .ref hR, .ref hT, .ref hM])), (hM, .inl (cJ, 6, (.inr (.inl (vp_updL (fun _ => 0) (0 : Int32).toNatClampNeg 1)))))]) [1, 5] (by decide) rfl
      have hFc := va_free (wc := [(xHan, .inr (3, [.int 0, .int 3, .int 1, .ref hH, .ref hR, .ref hT, .ref hM])), (hM, .inl (cJ, 6, (.inr (.inl (vp_updL (fun _ => 0) (0 : Int32).toNatClampNeg 1)))))]) hD hS hA [1, 5] rfl
      refine va_calli (va_runV (As := []) (rest := []) ⟨hx, hb, hml, hown, hts⟩ (c_X3_canTell_t3 l dC dI cB cI cJ H.size xHan hH hR hT hM) (cwV 0 hts gX10_relationOf_X3_canTell rfl rfl rfl (by decide +kernel) ⟨Nat.le_of_ble_eq_true rfl, Nat.le_of_ble_eq_true rfl⟩) ⟨fun a U g mk q => by obtain ⟨q0, q1, qP, qK, qD⟩ := q; exact ⟨q0, q1, qP, va_K.moved (u := U) (U := U.calling g mk a) (Vm.Alike.refl U.vm) qK, qD⟩, va_recv hK hP (ci := 3) (q0 := 1) rfl rfl, fun U hU hW => ⟨rfl, by rw [hU], by rw [hU]; exact hPc, va_K.moved hW.alike hK, hDc.weaken (fun _ _ _ _ => trivial)⟩⟩ rfl rfl hl.1 rfl (lv_room (Nat.le_of_ble_eq_true rfl)) dX10_relationOf_26 ⟨Nat.le_of_ble_eq_true rfl, Nat.le_of_ble_eq_true rfl⟩) hS (fun q _ h => hFc q h) hFc (fun r_5 u t H1 locs ht hvm hw hB hz1 hk1 hS => ?_)
      obtain ⟨hP1, hK1, hD1⟩ := hB
      rw [ht] at hP1
      obtain ⟨hP, hD⟩ := va_join (wr := [(x0, .inr (10, [.ref xTape, .ref xReader, .ref xBag, .ref xBld, .ref xAng, .ref xSum, .ref xPik, .int 0, .ref xHan, .ref xIns, .ref xShr, .ref xSta, .ref xTur])), (xSum, .inr (8, [.ref sM, .ref sP, .ref sA, .int 0])), (hH, .inl (cI, 7, (.inl (upd (upd (upd (fun _ => 0) (0 : Int32).toNatClampNeg 0) (0 : Int32).toNatClampNeg 1) (0 : Int32).toNatClampNeg 3)))), (hT, .inl (cJ, 7, (.inr (.inl (vp_updL (vp_updL (vp_updL (fun _ => 0) (0 : Int32).toNatClampNeg 1) (0 : Int32).toNatClampNeg 1) (0 : Int32).toNatClampNeg 1)))))]) (w1 := [(xHan, .inr (3, [.int 0, .int 3, .int 1, .ref hH, .ref hR, .ref hT, .ref hM])), (hM, .inl (cJ, 6, (.inr (.inl (vp_updL (fun _ => 0) (0 : Int32).toNatClampNeg 1)))))]) hP hD [1, 5] [0, 2, 3, 4] rfl rfl (by decide) (by decide) hk1 hFc hP1 hD1
      generalize H1 = H at hP hS ⊢
      have hP : va_P (dC, dI) vwCl [(x0, .inr (10, [.ref xTape, .ref xReader, .ref xBag, .ref xBld, .ref xAng, .ref xSum, .ref xPik, .int 0, .ref xHan, .ref xIns, .ref xShr, .ref xSta, .ref xTur])), (xSum, .inr (8, [.ref sM, .ref sP, .ref sA, .int 0])), (hH, .inl (cI, 7, (.inl (upd (upd (upd (fun _ => 0) (0 : Int32).toNatClampNeg 0) (0 : Int32).toNatClampNeg 1) (0 : Int32).toNatClampNeg 3)))), (hT, .inl (cJ, 7, (.inr (.inl (vp_updL (vp_updL (vp_updL (fun _ => 0) (0 : Int32).toNatClampNeg 1) (0 : Int32).toNatClampNeg 1) (0 : Int32).toNatClampNeg 1))))), (xHan, .inr (3, [.int 0, .int 3, .int 1, .ref hH, .ref hR, .ref hT, .ref hM])), (hM, .inl (cJ, 6, (.inr (.inl (vp_updL (fun _ => 0) (0 : Int32).toNatClampNeg 1)))))] H := hP
      have hD : va_D A [(x0, .inr (10, [.ref xTape, .ref xReader, .ref xBag, .ref xBld, .ref xAng, .ref xSum, .ref xPik, .int 0, .ref xHan, .ref xIns, .ref xShr, .ref xSta, .ref xTur])), (xSum, .inr (8, [.ref sM, .ref sP, .ref sA, .int 0])), (hH, .inl (cI, 7, (.inl (upd (upd (upd (fun _ => 0) (0 : Int32).toNatClampNeg 0) (0 : Int32).toNatClampNeg 1) (0 : Int32).toNatClampNeg 3)))), (hT, .inl (cJ, 7, (.inr (.inl (vp_updL (vp_updL (vp_updL (fun _ => 0) (0 : Int32).toNatClampNeg 1) (0 : Int32).toNatClampNeg 1) (0 : Int32).toNatClampNeg 1))))), (xHan, .inr (3, [.int 0, .int 3, .int 1, .ref hH, .ref hR, .ref hT, .ref hM])), (hM, .inl (cJ, 6, (.inr (.inl (vp_updL (fun _ => 0) (0 : Int32).toNatClampNeg 1)))))] := hD
      have hr_5 := hw
      obtain rfl : r_5 = 1 := hr_5
      refine lv_if_ne (tgt := 35) hx hb dX10_relationOf_29 (by decide) (fun _ => ?_) (fun c => absurd c (by decide))
      rcases nk_split4 p1 (by (try simp only [nk_lt, nk_le, nk_eq, nk_wd, nk_c0, nk_c1, nk_c2, nk_c3, nk_c4, nk_c5, nk_c6, nk_c15, nk_c16, nk_c24, nk_c47, nk_c48, nk_c600, nk_c1728, nk_m1, nk_l0, nk_l1, nk_l2, nk_l3, nk_l5, nk_l15, nk_l24, nk_l47] at k_4); omega) with rfl | rfl | rfl | rfl
      · refine lv_iload_n hx hb dX10_relationOf_35 rfl (lv_at hl 1 rfl) ?_
        refine lv_iload_n hx hb dX10_relationOf_36 rfl (lv_at hl 2 rfl) ?_
        refine lv_ishr hx hb dX10_relationOf_37 ?_
        refine lv_topi (fun x_6 ex_6 => ?_)
        obtain rfl : x_6 = 11 := ex_6.trans (by first | rfl | decide)
        refine lv_iconst (v := 1) hx hb dX10_relationOf_38 (by decide) ?_
        refine lv_iand hx hb dX10_relationOf_39 ?_
        refine lv_topi (fun x_7 ex_7 => ?_)
        obtain rfl : x_7 = 1 := ex_7.trans (by first | rfl | decide)
        refine lv_if_ne (tgt := 45) hx hb dX10_relationOf_40 (by decide) (fun _ => ?_) (fun c => absurd c (by decide))
        refine lv_aload_n hx hb dX10_relationOf_45 rfl (lv_at hl 0 rfl) ?_
        refine va_get (D := (dC, dI)) (ci := 10) (v := .ref xHan) (C := RX10) (T := TX10) (N := 13) hx hb hts hiX10 hown hK hP 0 rfl rfl 8 (by decide) (hts (.fieldLink RX10 61 "ScissorsTable" "hang" "LScissorsTable$Hang;") (by decide +kernel)) (fun _ h9 => h9) rfl dX10_relationOf_46 ?_
        refine lv_iload_n hx hb dX10_relationOf_49 rfl (lv_at hl 1 rfl) ?_
        refine lv_iconst (v := 1) hx hb dX10_relationOf_50 (by decide) ?_
        refine lv_iload_n hx hb dX10_relationOf_51 rfl (lv_at hl 2 rfl) ?_
        refine lv_ishl hx hb dX10_relationOf_52 ?_
        refine lv_topi (fun x_8 ex_8 => ?_)
        obtain rfl : x_8 = 1 := ex_8.trans (by first | rfl | decide)
        refine lv_iconst (v := 1) hx hb dX10_relationOf_53 (by decide) ?_
        refine lv_isub hx hb dX10_relationOf_54 ?_
        refine lv_topi (fun x_9 ex_9 => ?_)
        obtain rfl : x_9 = 0 := ex_9.trans (by first | rfl | decide)
        refine lv_iand hx hb dX10_relationOf_55 ?_
        refine lv_topi (fun x_10 ex_10 => ?_)
        obtain rfl : x_10 = 0 := ex_10.trans (by first | rfl | decide)
        have hPc := hP.sub (ws' := []) [] rfl
        have hDc := hD.sub (ws' := []) [] (by decide) rfl
        have hFc := va_free (wc := []) hD hS hA [] rfl
        refine va_calli (va_runS (As := [.int 0]) (rest := [.ref xHan]) ⟨hx, hb, hml, hown, hts⟩ (c_J6_bitCount_0f7a4_0 l dC dI cB cI cJ H.size ) (va_cwS 1 hts gX10_relationOf_J6_bitCount_0f7a4 rfl rfl rfl (by decide +kernel) ⟨Nat.le_of_ble_eq_true rfl, Nat.le_of_ble_eq_true rfl⟩) ⟨fun a U g mk q => by obtain ⟨q0, q1, qP, qK, qD⟩ := q; exact ⟨q0, q1, qP, va_K.moved (u := U) (U := U.calling g mk a) (Vm.Alike.refl U.vm) qK, qD⟩, fun U hU hW => ⟨rfl, by rw [hU], by rw [hU]; exact hPc, va_K.moved hW.alike hK, hDc.weaken (fun _ _ _ _ => trivial)⟩⟩ rfl rfl hl.1 rfl (lv_room (Nat.le_of_ble_eq_true rfl)) dX10_relationOf_56 ⟨Nat.le_of_ble_eq_true rfl, Nat.le_of_ble_eq_true rfl⟩) hS (fun q _ h => hFc q h) hFc (fun r_11 u t H1 locs ht hvm hw hB hz1 hk1 hS => ?_)
        have hP1 : va_P (dC, dI) vwCl [] H1 := fun k q h => by simp at h
        have hD1 : va_D (va_A [] H.size) [] := ⟨fun i j p q h => by simp at h, fun k q h => by simp at h⟩
        obtain ⟨hP, hD⟩ := va_join (wr := [(x0, .inr (10, [.ref xTape, .ref xReader, .ref xBag, .ref xBld, .ref xAng, .ref xSum, .ref xPik, .int 0, .ref xHan, .ref xIns, .ref xShr, .ref xSta, .ref xTur])), (xSum, .inr (8, [.ref sM, .ref sP, .ref sA, .int 0])), (hH, .inl (cI, 7, (.inl (upd (upd (upd (fun _ => 0) (0 : Int32).toNatClampNeg 0) (0 : Int32).toNatClampNeg 1) (0 : Int32).toNatClampNeg 3)))), (hT, .inl (cJ, 7, (.inr (.inl (vp_updL (vp_updL (vp_updL (fun _ => 0) (0 : Int32).toNatClampNeg 1) (0 : Int32).toNatClampNeg 1) (0 : Int32).toNatClampNeg 1))))), (xHan, .inr (3, [.int 0, .int 3, .int 1, .ref hH, .ref hR, .ref hT, .ref hM])), (hM, .inl (cJ, 6, (.inr (.inl (vp_updL (fun _ => 0) (0 : Int32).toNatClampNeg 1)))))]) (w1 := []) hP hD [] [0, 1, 2, 3, 4, 5] rfl rfl (by decide) (by decide) hk1 hFc hP1 hD1
        generalize H1 = H at hP hS ⊢
        have hP : va_P (dC, dI) vwCl [(x0, .inr (10, [.ref xTape, .ref xReader, .ref xBag, .ref xBld, .ref xAng, .ref xSum, .ref xPik, .int 0, .ref xHan, .ref xIns, .ref xShr, .ref xSta, .ref xTur])), (xSum, .inr (8, [.ref sM, .ref sP, .ref sA, .int 0])), (hH, .inl (cI, 7, (.inl (upd (upd (upd (fun _ => 0) (0 : Int32).toNatClampNeg 0) (0 : Int32).toNatClampNeg 1) (0 : Int32).toNatClampNeg 3)))), (hT, .inl (cJ, 7, (.inr (.inl (vp_updL (vp_updL (vp_updL (fun _ => 0) (0 : Int32).toNatClampNeg 1) (0 : Int32).toNatClampNeg 1) (0 : Int32).toNatClampNeg 1))))), (xHan, .inr (3, [.int 0, .int 3, .int 1, .ref hH, .ref hR, .ref hT, .ref hM])), (hM, .inl (cJ, 6, (.inr (.inl (vp_updL (fun _ => 0) (0 : Int32).toNatClampNeg 1)))))] H := hP
        have hD : va_D A [(x0, .inr (10, [.ref xTape, .ref xReader, .ref xBag, .ref xBld, .ref xAng, .ref xSum, .ref xPik, .int 0, .ref xHan, .ref xIns, .ref xShr, .ref xSta, .ref xTur])), (xSum, .inr (8, [.ref sM, .ref sP, .ref sA, .int 0])), (hH, .inl (cI, 7, (.inl (upd (upd (upd (fun _ => 0) (0 : Int32).toNatClampNeg 0) (0 : Int32).toNatClampNeg 1) (0 : Int32).toNatClampNeg 3)))), (hT, .inl (cJ, 7, (.inr (.inl (vp_updL (vp_updL (vp_updL (fun _ => 0) (0 : Int32).toNatClampNeg 1) (0 : Int32).toNatClampNeg 1) (0 : Int32).toNatClampNeg 1))))), (xHan, .inr (3, [.int 0, .int 3, .int 1, .ref hH, .ref hR, .ref hT, .ref hM])), (hM, .inl (cJ, 6, (.inr (.inl (vp_updL (fun _ => 0) (0 : Int32).toNatClampNeg 1)))))] := hD
        have hr_11 := hw
        obtain rfl : r_11 = 0 := hr_11
        have hPc := hP.sub (ws' := [(xHan, .inr (3, [.int 0, .int 3, .int 1, .ref hH, .ref hR, .ref hT, .ref hM])), (hM, .inl (cJ, 6, (.inr (.inl (vp_updL (fun _ => 0) (0 : Int32).toNatClampNeg 1)))))]) [4, 5] rfl
        have hDc := hD.sub (ws' := [(xHan, .inr (3, [.int 0, .int 3, .int 1, .ref hH, .ref hR, .ref hT, .ref hM])), (hM, .inl (cJ, 6, (.inr (.inl (vp_updL (fun _ => 0) (0 : Int32).toNatClampNeg 1)))))]) [4, 5] (by decide) rfl
        have hFc := va_free (wc := [(xHan, .inr (3, [.int 0, .int 3, .int 1, .ref hH, .ref hR, .ref hT, .ref hM])), (hM, .inl (cJ, 6, (.inr (.inl (vp_updL (fun _ => 0) (0 : Int32).toNatClampNeg 1)))))]) hD hS hA [4, 5] rfl
        refine va_calli (va_runV (As := [.int 0]) (rest := []) ⟨hx, hb, hml, hown, hts⟩ (c_X3_timesOf_t3_0 l dC dI cB cI cJ H.size xHan hH hR hT hM) (cwV 1 hts gX10_relationOf_X3_timesOf rfl rfl rfl (by decide +kernel) ⟨Nat.le_of_ble_eq_true rfl, Nat.le_of_ble_eq_true rfl⟩) ⟨fun a U g mk q => by obtain ⟨q0, q1, qP, qK, qD⟩ := q; exact ⟨q0, q1, qP, va_K.moved (u := U) (U := U.calling g mk a) (Vm.Alike.refl U.vm) qK, qD⟩, va_recv hK hP (ci := 3) (q0 := 4) rfl rfl, fun U hU hW => ⟨rfl, by rw [hU], by rw [hU]; exact hPc, va_K.moved hW.alike hK, hDc.weaken (fun _ _ _ _ => trivial)⟩⟩ rfl rfl hl.1 rfl (lv_room (Nat.le_of_ble_eq_true rfl)) dX10_relationOf_59 ⟨Nat.le_of_ble_eq_true rfl, Nat.le_of_ble_eq_true rfl⟩) hS (fun q _ h => hFc q h) hFc (fun r_12 u t H1 locs ht hvm hw hB hz1 hk1 hS => ?_)
        have hP1 : va_P (dC, dI) vwCl [] H1 := fun k q h => by simp at h
        have hD1 : va_D (va_A [(xHan, .inr (3, [.int 0, .int 3, .int 1, .ref hH, .ref hR, .ref hT, .ref hM])), (hM, .inl (cJ, 6, (.inr (.inl (vp_updL (fun _ => 0) (0 : Int32).toNatClampNeg 1)))))] H.size) [] := ⟨fun i j p q h => by simp at h, fun k q h => by simp at h⟩
        obtain ⟨hP, hD⟩ := va_join (wr := [(x0, .inr (10, [.ref xTape, .ref xReader, .ref xBag, .ref xBld, .ref xAng, .ref xSum, .ref xPik, .int 0, .ref xHan, .ref xIns, .ref xShr, .ref xSta, .ref xTur])), (xSum, .inr (8, [.ref sM, .ref sP, .ref sA, .int 0])), (hH, .inl (cI, 7, (.inl (upd (upd (upd (fun _ => 0) (0 : Int32).toNatClampNeg 0) (0 : Int32).toNatClampNeg 1) (0 : Int32).toNatClampNeg 3)))), (hT, .inl (cJ, 7, (.inr (.inl (vp_updL (vp_updL (vp_updL (fun _ => 0) (0 : Int32).toNatClampNeg 1) (0 : Int32).toNatClampNeg 1) (0 : Int32).toNatClampNeg 1)))))]) (w1 := []) hP hD [4, 5] [0, 1, 2, 3] rfl rfl (by decide) (by decide) hk1 hFc hP1 hD1
        generalize H1 = H at hP hS ⊢
        have hP : va_P (dC, dI) vwCl [(x0, .inr (10, [.ref xTape, .ref xReader, .ref xBag, .ref xBld, .ref xAng, .ref xSum, .ref xPik, .int 0, .ref xHan, .ref xIns, .ref xShr, .ref xSta, .ref xTur])), (xSum, .inr (8, [.ref sM, .ref sP, .ref sA, .int 0])), (hH, .inl (cI, 7, (.inl (upd (upd (upd (fun _ => 0) (0 : Int32).toNatClampNeg 0) (0 : Int32).toNatClampNeg 1) (0 : Int32).toNatClampNeg 3)))), (hT, .inl (cJ, 7, (.inr (.inl (vp_updL (vp_updL (vp_updL (fun _ => 0) (0 : Int32).toNatClampNeg 1) (0 : Int32).toNatClampNeg 1) (0 : Int32).toNatClampNeg 1)))))] H := hP
        have hD : va_D A [(x0, .inr (10, [.ref xTape, .ref xReader, .ref xBag, .ref xBld, .ref xAng, .ref xSum, .ref xPik, .int 0, .ref xHan, .ref xIns, .ref xShr, .ref xSta, .ref xTur])), (xSum, .inr (8, [.ref sM, .ref sP, .ref sA, .int 0])), (hH, .inl (cI, 7, (.inl (upd (upd (upd (fun _ => 0) (0 : Int32).toNatClampNeg 0) (0 : Int32).toNatClampNeg 1) (0 : Int32).toNatClampNeg 3)))), (hT, .inl (cJ, 7, (.inr (.inl (vp_updL (vp_updL (vp_updL (fun _ => 0) (0 : Int32).toNatClampNeg 1) (0 : Int32).toNatClampNeg 1) (0 : Int32).toNatClampNeg 1)))))] := hD
        have hr_12 := hw
        obtain rfl : r_12 = 1 := hr_12
        refine W.widen (k := 0) (n := 0) (Nat.le_of_ble_eq_true rfl) (Nat.le_of_ble_eq_true rfl) ?_
        exact W.iret (v := 1) hx hb hr (fun t ht hW => ⟨⟨1, (), rfl, (by decide), trivial⟩, hS.F ht⟩) hS.2.2 dX10_relationOf_62
      · refine lv_iload_n hx hb dX10_relationOf_35 rfl (lv_at hl 1 rfl) ?_
        refine lv_iload_n hx hb dX10_relationOf_36 rfl (lv_at hl 2 rfl) ?_
        refine lv_ishr hx hb dX10_relationOf_37 ?_
        refine lv_topi (fun x_13 ex_13 => ?_)
        obtain rfl : x_13 = 5 := ex_13.trans (by first | rfl | decide)
        refine lv_iconst (v := 1) hx hb dX10_relationOf_38 (by decide) ?_
        refine lv_iand hx hb dX10_relationOf_39 ?_
        refine lv_topi (fun x_14 ex_14 => ?_)
        obtain rfl : x_14 = 1 := ex_14.trans (by first | rfl | decide)
        refine lv_if_ne (tgt := 45) hx hb dX10_relationOf_40 (by decide) (fun _ => ?_) (fun c => absurd c (by decide))
        refine lv_aload_n hx hb dX10_relationOf_45 rfl (lv_at hl 0 rfl) ?_
        refine va_get (D := (dC, dI)) (ci := 10) (v := .ref xHan) (C := RX10) (T := TX10) (N := 13) hx hb hts hiX10 hown hK hP 0 rfl rfl 8 (by decide) (hts (.fieldLink RX10 61 "ScissorsTable" "hang" "LScissorsTable$Hang;") (by decide +kernel)) (fun _ h9 => h9) rfl dX10_relationOf_46 ?_
        refine lv_iload_n hx hb dX10_relationOf_49 rfl (lv_at hl 1 rfl) ?_
        refine lv_iconst (v := 1) hx hb dX10_relationOf_50 (by decide) ?_
        refine lv_iload_n hx hb dX10_relationOf_51 rfl (lv_at hl 2 rfl) ?_
        refine lv_ishl hx hb dX10_relationOf_52 ?_
        refine lv_topi (fun x_15 ex_15 => ?_)
        obtain rfl : x_15 = 2 := ex_15.trans (by first | rfl | decide)
        refine lv_iconst (v := 1) hx hb dX10_relationOf_53 (by decide) ?_
        refine lv_isub hx hb dX10_relationOf_54 ?_
        refine lv_topi (fun x_16 ex_16 => ?_)
        obtain rfl : x_16 = 1 := ex_16.trans (by first | rfl | decide)
        refine lv_iand hx hb dX10_relationOf_55 ?_
        refine lv_topi (fun x_17 ex_17 => ?_)
        obtain rfl : x_17 = 1 := ex_17.trans (by first | rfl | decide)
        have hPc := hP.sub (ws' := []) [] rfl
        have hDc := hD.sub (ws' := []) [] (by decide) rfl
        have hFc := va_free (wc := []) hD hS hA [] rfl
        refine va_calli (va_runS (As := [.int 1]) (rest := [.ref xHan]) ⟨hx, hb, hml, hown, hts⟩ (c_J6_bitCount_0f7a4_1 l dC dI cB cI cJ H.size ) (va_cwS 1 hts gX10_relationOf_J6_bitCount_0f7a4 rfl rfl rfl (by decide +kernel) ⟨Nat.le_of_ble_eq_true rfl, Nat.le_of_ble_eq_true rfl⟩) ⟨fun a U g mk q => by obtain ⟨q0, q1, qP, qK, qD⟩ := q; exact ⟨q0, q1, qP, va_K.moved (u := U) (U := U.calling g mk a) (Vm.Alike.refl U.vm) qK, qD⟩, fun U hU hW => ⟨rfl, by rw [hU], by rw [hU]; exact hPc, va_K.moved hW.alike hK, hDc.weaken (fun _ _ _ _ => trivial)⟩⟩ rfl rfl hl.1 rfl (lv_room (Nat.le_of_ble_eq_true rfl)) dX10_relationOf_56 ⟨Nat.le_of_ble_eq_true rfl, Nat.le_of_ble_eq_true rfl⟩) hS (fun q _ h => hFc q h) hFc (fun r_18 u t H1 locs ht hvm hw hB hz1 hk1 hS => ?_)
        have hP1 : va_P (dC, dI) vwCl [] H1 := fun k q h => by simp at h
        have hD1 : va_D (va_A [] H.size) [] := ⟨fun i j p q h => by simp at h, fun k q h => by simp at h⟩
        obtain ⟨hP, hD⟩ := va_join (wr := [(x0, .inr (10, [.ref xTape, .ref xReader, .ref xBag, .ref xBld, .ref xAng, .ref xSum, .ref xPik, .int 0, .ref xHan, .ref xIns, .ref xShr, .ref xSta, .ref xTur])), (xSum, .inr (8, [.ref sM, .ref sP, .ref sA, .int 0])), (hH, .inl (cI, 7, (.inl (upd (upd (upd (fun _ => 0) (0 : Int32).toNatClampNeg 0) (0 : Int32).toNatClampNeg 1) (0 : Int32).toNatClampNeg 3)))), (hT, .inl (cJ, 7, (.inr (.inl (vp_updL (vp_updL (vp_updL (fun _ => 0) (0 : Int32).toNatClampNeg 1) (0 : Int32).toNatClampNeg 1) (0 : Int32).toNatClampNeg 1))))), (xHan, .inr (3, [.int 0, .int 3, .int 1, .ref hH, .ref hR, .ref hT, .ref hM])), (hM, .inl (cJ, 6, (.inr (.inl (vp_updL (fun _ => 0) (0 : Int32).toNatClampNeg 1)))))]) (w1 := []) hP hD [] [0, 1, 2, 3, 4, 5] rfl rfl (by decide) (by decide) hk1 hFc hP1 hD1
        generalize H1 = H at hP hS ⊢
        have hP : va_P (dC, dI) vwCl [(x0, .inr (10, [.ref xTape, .ref xReader, .ref xBag, .ref xBld, .ref xAng, .ref xSum, .ref xPik, .int 0, .ref xHan, .ref xIns, .ref xShr, .ref xSta, .ref xTur])), (xSum, .inr (8, [.ref sM, .ref sP, .ref sA, .int 0])), (hH, .inl (cI, 7, (.inl (upd (upd (upd (fun _ => 0) (0 : Int32).toNatClampNeg 0) (0 : Int32).toNatClampNeg 1) (0 : Int32).toNatClampNeg 3)))), (hT, .inl (cJ, 7, (.inr (.inl (vp_updL (vp_updL (vp_updL (fun _ => 0) (0 : Int32).toNatClampNeg 1) (0 : Int32).toNatClampNeg 1) (0 : Int32).toNatClampNeg 1))))), (xHan, .inr (3, [.int 0, .int 3, .int 1, .ref hH, .ref hR, .ref hT, .ref hM])), (hM, .inl (cJ, 6, (.inr (.inl (vp_updL (fun _ => 0) (0 : Int32).toNatClampNeg 1)))))] H := hP
        have hD : va_D A [(x0, .inr (10, [.ref xTape, .ref xReader, .ref xBag, .ref xBld, .ref xAng, .ref xSum, .ref xPik, .int 0, .ref xHan, .ref xIns, .ref xShr, .ref xSta, .ref xTur])), (xSum, .inr (8, [.ref sM, .ref sP, .ref sA, .int 0])), (hH, .inl (cI, 7, (.inl (upd (upd (upd (fun _ => 0) (0 : Int32).toNatClampNeg 0) (0 : Int32).toNatClampNeg 1) (0 : Int32).toNatClampNeg 3)))), (hT, .inl (cJ, 7, (.inr (.inl (vp_updL (vp_updL (vp_updL (fun _ => 0) (0 : Int32).toNatClampNeg 1) (0 : Int32).toNatClampNeg 1) (0 : Int32).toNatClampNeg 1))))), (xHan, .inr (3, [.int 0, .int 3, .int 1, .ref hH, .ref hR, .ref hT, .ref hM])), (hM, .inl (cJ, 6, (.inr (.inl (vp_updL (fun _ => 0) (0 : Int32).toNatClampNeg 1)))))] := hD
        have hr_18 := hw
        obtain rfl : r_18 = 1 := hr_18
        have hPc := hP.sub (ws' := [(xHan, .inr (3, [.int 0, .int 3, .int 1, .ref hH, .ref hR, .ref hT, .ref hM])), (hM, .inl (cJ, 6, (.inr (.inl (vp_updL (fun _ => 0) (0 : Int32).toNatClampNeg 1)))))]) [4, 5] rfl
        have hDc := hD.sub (ws' := [(xHan, .inr (3, [.int 0, .int 3, .int 1, .ref hH, .ref hR, .ref hT, .ref hM])), (hM, .inl (cJ, 6, (.inr (.inl (vp_updL (fun _ => 0) (0 : Int32).toNatClampNeg 1)))))]) [4, 5] (by decide) rfl
        have hFc := va_free (wc := [(xHan, .inr (3, [.int 0, .int 3, .int 1, .ref hH, .ref hR, .ref hT, .ref hM])), (hM, .inl (cJ, 6, (.inr (.inl (vp_updL (fun _ => 0) (0 : Int32).toNatClampNeg 1)))))]) hD hS hA [4, 5] rfl
        refine va_calli (va_runV (As := [.int 1]) (rest := []) ⟨hx, hb, hml, hown, hts⟩ (c_X3_timesOf_t3_1 l dC dI cB cI cJ H.size xHan hH hR hT hM) (cwV 1 hts gX10_relationOf_X3_timesOf rfl rfl rfl (by decide +kernel) ⟨Nat.le_of_ble_eq_true rfl, Nat.le_of_ble_eq_true rfl⟩) ⟨fun a U g mk q => by obtain ⟨q0, q1, qP, qK, qD⟩ := q; exact ⟨q0, q1, qP, va_K.moved (u := U) (U := U.calling g mk a) (Vm.Alike.refl U.vm) qK, qD⟩, va_recv hK hP (ci := 3) (q0 := 4) rfl rfl, fun U hU hW => ⟨rfl, by rw [hU], by rw [hU]; exact hPc, va_K.moved hW.alike hK, hDc.weaken (fun _ _ _ _ => trivial)⟩⟩ rfl rfl hl.1 rfl (lv_room (Nat.le_of_ble_eq_true rfl)) dX10_relationOf_59 ⟨Nat.le_of_ble_eq_true rfl, Nat.le_of_ble_eq_true rfl⟩) hS (fun q _ h => hFc q h) hFc (fun r_19 u t H1 locs ht hvm hw hB hz1 hk1 hS => ?_)
        have hP1 : va_P (dC, dI) vwCl [] H1 := fun k q h => by simp at h
        have hD1 : va_D (va_A [(xHan, .inr (3, [.int 0, .int 3, .int 1, .ref hH, .ref hR, .ref hT, .ref hM])), (hM, .inl (cJ, 6, (.inr (.inl (vp_updL (fun _ => 0) (0 : Int32).toNatClampNeg 1)))))] H.size) [] := ⟨fun i j p q h => by simp at h, fun k q h => by simp at h⟩
        obtain ⟨hP, hD⟩ := va_join (wr := [(x0, .inr (10, [.ref xTape, .ref xReader, .ref xBag, .ref xBld, .ref xAng, .ref xSum, .ref xPik, .int 0, .ref xHan, .ref xIns, .ref xShr, .ref xSta, .ref xTur])), (xSum, .inr (8, [.ref sM, .ref sP, .ref sA, .int 0])), (hH, .inl (cI, 7, (.inl (upd (upd (upd (fun _ => 0) (0 : Int32).toNatClampNeg 0) (0 : Int32).toNatClampNeg 1) (0 : Int32).toNatClampNeg 3)))), (hT, .inl (cJ, 7, (.inr (.inl (vp_updL (vp_updL (vp_updL (fun _ => 0) (0 : Int32).toNatClampNeg 1) (0 : Int32).toNatClampNeg 1) (0 : Int32).toNatClampNeg 1)))))]) (w1 := []) hP hD [4, 5] [0, 1, 2, 3] rfl rfl (by decide) (by decide) hk1 hFc hP1 hD1
        generalize H1 = H at hP hS ⊢
        have hP : va_P (dC, dI) vwCl [(x0, .inr (10, [.ref xTape, .ref xReader, .ref xBag, .ref xBld, .ref xAng, .ref xSum, .ref xPik, .int 0, .ref xHan, .ref xIns, .ref xShr, .ref xSta, .ref xTur])), (xSum, .inr (8, [.ref sM, .ref sP, .ref sA, .int 0])), (hH, .inl (cI, 7, (.inl (upd (upd (upd (fun _ => 0) (0 : Int32).toNatClampNeg 0) (0 : Int32).toNatClampNeg 1) (0 : Int32).toNatClampNeg 3)))), (hT, .inl (cJ, 7, (.inr (.inl (vp_updL (vp_updL (vp_updL (fun _ => 0) (0 : Int32).toNatClampNeg 1) (0 : Int32).toNatClampNeg 1) (0 : Int32).toNatClampNeg 1)))))] H := hP
        have hD : va_D A [(x0, .inr (10, [.ref xTape, .ref xReader, .ref xBag, .ref xBld, .ref xAng, .ref xSum, .ref xPik, .int 0, .ref xHan, .ref xIns, .ref xShr, .ref xSta, .ref xTur])), (xSum, .inr (8, [.ref sM, .ref sP, .ref sA, .int 0])), (hH, .inl (cI, 7, (.inl (upd (upd (upd (fun _ => 0) (0 : Int32).toNatClampNeg 0) (0 : Int32).toNatClampNeg 1) (0 : Int32).toNatClampNeg 3)))), (hT, .inl (cJ, 7, (.inr (.inl (vp_updL (vp_updL (vp_updL (fun _ => 0) (0 : Int32).toNatClampNeg 1) (0 : Int32).toNatClampNeg 1) (0 : Int32).toNatClampNeg 1)))))] := hD
        have hr_19 := hw
        obtain rfl : r_19 = 0 := hr_19
        refine W.widen (k := 0) (n := 0) (Nat.le_of_ble_eq_true rfl) (Nat.le_of_ble_eq_true rfl) ?_
        exact W.iret (v := 0) hx hb hr (fun t ht hW => ⟨⟨0, (), rfl, (by decide), trivial⟩, hS.F ht⟩) hS.2.2 dX10_relationOf_62
      · refine lv_iload_n hx hb dX10_relationOf_35 rfl (lv_at hl 1 rfl) ?_
        refine lv_iload_n hx hb dX10_relationOf_36 rfl (lv_at hl 2 rfl) ?_
        refine lv_ishr hx hb dX10_relationOf_37 ?_
        refine lv_topi (fun x_20 ex_20 => ?_)
        obtain rfl : x_20 = 2 := ex_20.trans (by first | rfl | decide)
        refine lv_iconst (v := 1) hx hb dX10_relationOf_38 (by decide) ?_
        refine lv_iand hx hb dX10_relationOf_39 ?_
        refine lv_topi (fun x_21 ex_21 => ?_)
        obtain rfl : x_21 = 0 := ex_21.trans (by first | rfl | decide)
        refine lv_if_ne (tgt := 45) hx hb dX10_relationOf_40 (by decide) (fun c => absurd (by decide) c) (fun _ => ?_)
        refine lv_iconst (v := 0) hx hb dX10_relationOf_43 (by decide) ?_
        refine W.widen (k := 0) (n := 0) (Nat.le_of_ble_eq_true rfl) (Nat.le_of_ble_eq_true rfl) ?_
        exact W.iret (v := 0) hx hb hr (fun t ht hW => ⟨⟨0, (), rfl, (by decide), trivial⟩, hS.F ht⟩) hS.2.2 dX10_relationOf_44
      · refine lv_iload_n hx hb dX10_relationOf_35 rfl (lv_at hl 1 rfl) ?_
        refine lv_iload_n hx hb dX10_relationOf_36 rfl (lv_at hl 2 rfl) ?_
        refine lv_ishr hx hb dX10_relationOf_37 ?_
        refine lv_topi (fun x_22 ex_22 => ?_)
        obtain rfl : x_22 = 1 := ex_22.trans (by first | rfl | decide)
        refine lv_iconst (v := 1) hx hb dX10_relationOf_38 (by decide) ?_
        refine lv_iand hx hb dX10_relationOf_39 ?_
        refine lv_topi (fun x_23 ex_23 => ?_)
        obtain rfl : x_23 = 1 := ex_23.trans (by first | rfl | decide)
        refine lv_if_ne (tgt := 45) hx hb dX10_relationOf_40 (by decide) (fun _ => ?_) (fun c => absurd c (by decide))
        refine lv_aload_n hx hb dX10_relationOf_45 rfl (lv_at hl 0 rfl) ?_
        refine va_get (D := (dC, dI)) (ci := 10) (v := .ref xHan) (C := RX10) (T := TX10) (N := 13) hx hb hts hiX10 hown hK hP 0 rfl rfl 8 (by decide) (hts (.fieldLink RX10 61 "ScissorsTable" "hang" "LScissorsTable$Hang;") (by decide +kernel)) (fun _ h9 => h9) rfl dX10_relationOf_46 ?_
        refine lv_iload_n hx hb dX10_relationOf_49 rfl (lv_at hl 1 rfl) ?_
        refine lv_iconst (v := 1) hx hb dX10_relationOf_50 (by decide) ?_
        refine lv_iload_n hx hb dX10_relationOf_51 rfl (lv_at hl 2 rfl) ?_
        refine lv_ishl hx hb dX10_relationOf_52 ?_
        refine lv_topi (fun x_24 ex_24 => ?_)
        obtain rfl : x_24 = 8 := ex_24.trans (by first | rfl | decide)
        refine lv_iconst (v := 1) hx hb dX10_relationOf_53 (by decide) ?_
        refine lv_isub hx hb dX10_relationOf_54 ?_
        refine lv_topi (fun x_25 ex_25 => ?_)
        obtain rfl : x_25 = 7 := ex_25.trans (by first | rfl | decide)
        refine lv_iand hx hb dX10_relationOf_55 ?_
        refine lv_topi (fun x_26 ex_26 => ?_)
        obtain rfl : x_26 = 3 := ex_26.trans (by first | rfl | decide)
        have hPc := hP.sub (ws' := []) [] rfl
        have hDc := hD.sub (ws' := []) [] (by decide) rfl
        have hFc := va_free (wc := []) hD hS hA [] rfl
        refine va_calli (va_runS (As := [.int 3]) (rest := [.ref xHan]) ⟨hx, hb, hml, hown, hts⟩ (c_J6_bitCount_0f7a4_3 l dC dI cB cI cJ H.size ) (va_cwS 1 hts gX10_relationOf_J6_bitCount_0f7a4 rfl rfl rfl (by decide +kernel) ⟨Nat.le_of_ble_eq_true rfl, Nat.le_of_ble_eq_true rfl⟩) ⟨fun a U g mk q => by obtain ⟨q0, q1, qP, qK, qD⟩ := q; exact ⟨q0, q1, qP, va_K.moved (u := U) (U := U.calling g mk a) (Vm.Alike.refl U.vm) qK, qD⟩, fun U hU hW => ⟨rfl, by rw [hU], by rw [hU]; exact hPc, va_K.moved hW.alike hK, hDc.weaken (fun _ _ _ _ => trivial)⟩⟩ rfl rfl hl.1 rfl (lv_room (Nat.le_of_ble_eq_true rfl)) dX10_relationOf_56 ⟨Nat.le_of_ble_eq_true rfl, Nat.le_of_ble_eq_true rfl⟩) hS (fun q _ h => hFc q h) hFc (fun r_27 u t H1 locs ht hvm hw hB hz1 hk1 hS => ?_)
        have hP1 : va_P (dC, dI) vwCl [] H1 := fun k q h => by simp at h
        have hD1 : va_D (va_A [] H.size) [] := ⟨fun i j p q h => by simp at h, fun k q h => by simp at h⟩
        obtain ⟨hP, hD⟩ := va_join (wr := [(x0, .inr (10, [.ref xTape, .ref xReader, .ref xBag, .ref xBld, .ref xAng, .ref xSum, .ref xPik, .int 0, .ref xHan, .ref xIns, .ref xShr, .ref xSta, .ref xTur])), (xSum, .inr (8, [.ref sM, .ref sP, .ref sA, .int 0])), (hH, .inl (cI, 7, (.inl (upd (upd (upd (fun _ => 0) (0 : Int32).toNatClampNeg 0) (0 : Int32).toNatClampNeg 1) (0 : Int32).toNatClampNeg 3)))), (hT, .inl (cJ, 7, (.inr (.inl (vp_updL (vp_updL (vp_updL (fun _ => 0) (0 : Int32).toNatClampNeg 1) (0 : Int32).toNatClampNeg 1) (0 : Int32).toNatClampNeg 1))))), (xHan, .inr (3, [.int 0, .int 3, .int 1, .ref hH, .ref hR, .ref hT, .ref hM])), (hM, .inl (cJ, 6, (.inr (.inl (vp_updL (fun _ => 0) (0 : Int32).toNatClampNeg 1)))))]) (w1 := []) hP hD [] [0, 1, 2, 3, 4, 5] rfl rfl (by decide) (by decide) hk1 hFc hP1 hD1
        generalize H1 = H at hP hS ⊢
        have hP : va_P (dC, dI) vwCl [(x0, .inr (10, [.ref xTape, .ref xReader, .ref xBag, .ref xBld, .ref xAng, .ref xSum, .ref xPik, .int 0, .ref xHan, .ref xIns, .ref xShr, .ref xSta, .ref xTur])), (xSum, .inr (8, [.ref sM, .ref sP, .ref sA, .int 0])), (hH, .inl (cI, 7, (.inl (upd (upd (upd (fun _ => 0) (0 : Int32).toNatClampNeg 0) (0 : Int32).toNatClampNeg 1) (0 : Int32).toNatClampNeg 3)))), (hT, .inl (cJ, 7, (.inr (.inl (vp_updL (vp_updL (vp_updL (fun _ => 0) (0 : Int32).toNatClampNeg 1) (0 : Int32).toNatClampNeg 1) (0 : Int32).toNatClampNeg 1))))), (xHan, .inr (3, [.int 0, .int 3, .int 1, .ref hH, .ref hR, .ref hT, .ref hM])), (hM, .inl (cJ, 6, (.inr (.inl (vp_updL (fun _ => 0) (0 : Int32).toNatClampNeg 1)))))] H := hP
        have hD : va_D A [(x0, .inr (10, [.ref xTape, .ref xReader, .ref xBag, .ref xBld, .ref xAng, .ref xSum, .ref xPik, .int 0, .ref xHan, .ref xIns, .ref xShr, .ref xSta, .ref xTur])), (xSum, .inr (8, [.ref sM, .ref sP, .ref sA, .int 0])), (hH, .inl (cI, 7, (.inl (upd (upd (upd (fun _ => 0) (0 : Int32).toNatClampNeg 0) (0 : Int32).toNatClampNeg 1) (0 : Int32).toNatClampNeg 3)))), (hT, .inl (cJ, 7, (.inr (.inl (vp_updL (vp_updL (vp_updL (fun _ => 0) (0 : Int32).toNatClampNeg 1) (0 : Int32).toNatClampNeg 1) (0 : Int32).toNatClampNeg 1))))), (xHan, .inr (3, [.int 0, .int 3, .int 1, .ref hH, .ref hR, .ref hT, .ref hM])), (hM, .inl (cJ, 6, (.inr (.inl (vp_updL (fun _ => 0) (0 : Int32).toNatClampNeg 1)))))] := hD
        have hr_27 := hw
        obtain rfl : r_27 = 2 := hr_27
        have hPc := hP.sub (ws' := [(xHan, .inr (3, [.int 0, .int 3, .int 1, .ref hH, .ref hR, .ref hT, .ref hM])), (hM, .inl (cJ, 6, (.inr (.inl (vp_updL (fun _ => 0) (0 : Int32).toNatClampNeg 1)))))]) [4, 5] rfl
        have hDc := hD.sub (ws' := [(xHan, .inr (3, [.int 0, .int 3, .int 1, .ref hH, .ref hR, .ref hT, .ref hM])), (hM, .inl (cJ, 6, (.inr (.inl (vp_updL (fun _ => 0) (0 : Int32).toNatClampNeg 1)))))]) [4, 5] (by decide) rfl
        have hFc := va_free (wc := [(xHan, .inr (3, [.int 0, .int 3, .int 1, .ref hH, .ref hR, .ref hT, .ref hM])), (hM, .inl (cJ, 6, (.inr (.inl (vp_updL (fun _ => 0) (0 : Int32).toNatClampNeg 1)))))]) hD hS hA [4, 5] rfl
        refine va_calli (va_runV (As := [.int 2]) (rest := []) ⟨hx, hb, hml, hown, hts⟩ (c_X3_timesOf_t3_2 l dC dI cB cI cJ H.size xHan hH hR hT hM) (cwV 1 hts gX10_relationOf_X3_timesOf rfl rfl rfl (by decide +kernel) ⟨Nat.le_of_ble_eq_true rfl, Nat.le_of_ble_eq_true rfl⟩) ⟨fun a U g mk q => by obtain ⟨q0, q1, qP, qK, qD⟩ := q; exact ⟨q0, q1, qP, va_K.moved (u := U) (U := U.calling g mk a) (Vm.Alike.refl U.vm) qK, qD⟩, va_recv hK hP (ci := 3) (q0 := 4) rfl rfl, fun U hU hW => ⟨rfl, by rw [hU], by rw [hU]; exact hPc, va_K.moved hW.alike hK, hDc.weaken (fun _ _ _ _ => trivial)⟩⟩ rfl rfl hl.1 rfl (lv_room (Nat.le_of_ble_eq_true rfl)) dX10_relationOf_59 ⟨Nat.le_of_ble_eq_true rfl, Nat.le_of_ble_eq_true rfl⟩) hS (fun q _ h => hFc q h) hFc (fun r_28 u t H1 locs ht hvm hw hB hz1 hk1 hS => ?_)
        have hP1 : va_P (dC, dI) vwCl [] H1 := fun k q h => by simp at h
        have hD1 : va_D (va_A [(xHan, .inr (3, [.int 0, .int 3, .int 1, .ref hH, .ref hR, .ref hT, .ref hM])), (hM, .inl (cJ, 6, (.inr (.inl (vp_updL (fun _ => 0) (0 : Int32).toNatClampNeg 1)))))] H.size) [] := ⟨fun i j p q h => by simp at h, fun k q h => by simp at h⟩
        obtain ⟨hP, hD⟩ := va_join (wr := [(x0, .inr (10, [.ref xTape, .ref xReader, .ref xBag, .ref xBld, .ref xAng, .ref xSum, .ref xPik, .int 0, .ref xHan, .ref xIns, .ref xShr, .ref xSta, .ref xTur])), (xSum, .inr (8, [.ref sM, .ref sP, .ref sA, .int 0])), (hH, .inl (cI, 7, (.inl (upd (upd (upd (fun _ => 0) (0 : Int32).toNatClampNeg 0) (0 : Int32).toNatClampNeg 1) (0 : Int32).toNatClampNeg 3)))), (hT, .inl (cJ, 7, (.inr (.inl (vp_updL (vp_updL (vp_updL (fun _ => 0) (0 : Int32).toNatClampNeg 1) (0 : Int32).toNatClampNeg 1) (0 : Int32).toNatClampNeg 1)))))]) (w1 := []) hP hD [4, 5] [0, 1, 2, 3] rfl rfl (by decide) (by decide) hk1 hFc hP1 hD1
        generalize H1 = H at hP hS ⊢
        have hP : va_P (dC, dI) vwCl [(x0, .inr (10, [.ref xTape, .ref xReader, .ref xBag, .ref xBld, .ref xAng, .ref xSum, .ref xPik, .int 0, .ref xHan, .ref xIns, .ref xShr, .ref xSta, .ref xTur])), (xSum, .inr (8, [.ref sM, .ref sP, .ref sA, .int 0])), (hH, .inl (cI, 7, (.inl (upd (upd (upd (fun _ => 0) (0 : Int32).toNatClampNeg 0) (0 : Int32).toNatClampNeg 1) (0 : Int32).toNatClampNeg 3)))), (hT, .inl (cJ, 7, (.inr (.inl (vp_updL (vp_updL (vp_updL (fun _ => 0) (0 : Int32).toNatClampNeg 1) (0 : Int32).toNatClampNeg 1) (0 : Int32).toNatClampNeg 1)))))] H := hP
        have hD : va_D A [(x0, .inr (10, [.ref xTape, .ref xReader, .ref xBag, .ref xBld, .ref xAng, .ref xSum, .ref xPik, .int 0, .ref xHan, .ref xIns, .ref xShr, .ref xSta, .ref xTur])), (xSum, .inr (8, [.ref sM, .ref sP, .ref sA, .int 0])), (hH, .inl (cI, 7, (.inl (upd (upd (upd (fun _ => 0) (0 : Int32).toNatClampNeg 0) (0 : Int32).toNatClampNeg 1) (0 : Int32).toNatClampNeg 3)))), (hT, .inl (cJ, 7, (.inr (.inl (vp_updL (vp_updL (vp_updL (fun _ => 0) (0 : Int32).toNatClampNeg 1) (0 : Int32).toNatClampNeg 1) (0 : Int32).toNatClampNeg 1)))))] := hD
        have hr_28 := hw
        obtain rfl : r_28 = 0 := hr_28
        refine W.widen (k := 0) (n := 0) (Nat.le_of_ble_eq_true rfl) (Nat.le_of_ble_eq_true rfl) ?_
        exact W.iret (v := 0) hx hb hr (fun t ht hW => ⟨⟨0, (), rfl, (by decide), trivial⟩, hS.F ht⟩) hS.2.2 dX10_relationOf_62
set_option maxHeartbeats 4000000 in
set_option maxRecDepth 100000 in
theorem c_X10_relationOf_12 (l : Launch) (dC : Nat → ClassId) (dI : Nat → Nat → Nat) (cB cI cJ : ClassId) (sz : Nat) (x0 xTape xReader xBag xBld xAng xSum xPik xHan xIns xShr xSta xTur sM sP sA hH hR hT hM : Nat) (p1 : Int32) : Met l yX10_relationOf wsX10_relationOf ({ frames := 12, cells := 0, slots := 0, locals := 400 }) (va_Pc [.ref x0, .int 12, .int p1] (fun U => U.heap.size = sz ∧ va_P (dC, dI) vwCl [(x0, .inr (10, [.ref xTape, .ref xReader, .ref xBag, .ref xBld, .ref xAng, .ref xSum, .ref xPik, .int 0, .ref xHan, .ref xIns, .ref xShr, .ref xSta, .ref xTur])), (xSum, .inr (8, [.ref sM, .ref sP, .ref sA, .int 0])), (xHan, .inr (3, [.int 0, .int 0, .int 0, .ref hH, .ref hR, .ref hT, .ref hM])), (hH, .inl (cI, 7, (.inl (fun _ => 0)))), (hT, .inl (cJ, 7, (.inr (.inl (fun _ => 0))))), (hM, .inl (cJ, 6, (.inr (.inl (fun _ => 0)))))] U.heap ∧ va_K (dC, dI) vwCl [(cB, .byte), (cI, .int), (cJ, .long)] U ∧ va_D (fun _ => True) [(x0, .inr (10, [.ref xTape, .ref xReader, .ref xBag, .ref xBld, .ref xAng, .ref xSum, .ref xPik, .int 0, .ref xHan, .ref xIns, .ref xShr, .ref xSta, .ref xTur])), (xSum, .inr (8, [.ref sM, .ref sP, .ref sA, .int 0])), (xHan, .inr (3, [.int 0, .int 0, .int 0, .ref hH, .ref hR, .ref hT, .ref hM])), (hH, .inl (cI, 7, (.inl (fun _ => 0)))), (hT, .inl (cJ, 7, (.inr (.inl (fun _ => 0))))), (hM, .inl (cJ, 6, (.inr (.inl (fun _ => 0)))))] ∧ va_Nw (.methodLinkNest RX3 62 yX10_gcd "ScissorsTable") U)) (va_Qi (fun (r : Int32) (_ : Unit) => r = sp_rel 12 p1) (fun _ _ => True) (va_A [(x0, .inr (10, [.ref xTape, .ref xReader, .ref xBag, .ref xBld, .ref xAng, .ref xSum, .ref xPik, .int 0, .ref xHan, .ref xIns, .ref xShr, .ref xSta, .ref xTur])), (xSum, .inr (8, [.ref sM, .ref sP, .ref sA, .int 0])), (xHan, .inr (3, [.int 0, .int 0, .int 0, .ref hH, .ref hR, .ref hT, .ref hM])), (hH, .inl (cI, 7, (.inl (fun _ => 0)))), (hT, .inl (cJ, 7, (.inr (.inl (fun _ => 0))))), (hM, .inl (cJ, 6, (.inr (.inl (fun _ => 0)))))] sz)) 0 0 (va_A [(x0, .inr (10, [.ref xTape, .ref xReader, .ref xBag, .ref xBld, .ref xAng, .ref xSum, .ref xPik, .int 0, .ref xHan, .ref xIns, .ref xShr, .ref xSta, .ref xTur])), (xSum, .inr (8, [.ref sM, .ref sP, .ref sA, .int 0])), (xHan, .inr (3, [.int 0, .int 0, .int 0, .ref hH, .ref hR, .ref hT, .ref hM])), (hH, .inl (cI, 7, (.inl (fun _ => 0)))), (hT, .inl (cJ, 7, (.inr (.inl (fun _ => 0))))), (hM, .inl (cJ, 6, (.inr (.inl (fun _ => 0)))))] sz) := by
  refine Met.ofW (cc := cX10_relationOf) (maxL := 3) (ret := (some .int)) (by decide) rfl ?_
  intro p e s m args below meth c s₁ B hml hv
  obtain ⟨rfl, hsz, hP, hK, hD0, hN0⟩ := hv
  have hx := B.exec
  have hb := B.bytes
  have hr := B.returns
  have hts := atoms_spec (ws := wsX10_relationOf) B.pre
  have hown : s.vm.findClass RX10 = some m.cls := findClass_of_methodNamed B.named
  have hlocks := B.notSynchronized
  have hiX10 : ∀ w ∈ u_ws RX10 TX10 13, w ∈ wsX10_relationOf := by decide +kernel
  subst hsz
  have hD := hD0.self (sz := s.heap.size)
  generalize hAe : va_A [(x0, .inr (10, [.ref xTape, .ref xReader, .ref xBag, .ref xBld, .ref xAng, .ref xSum, .ref xPik, .int 0, .ref xHan, .ref xIns, .ref xShr, .ref xSta, .ref xTur])), (xSum, .inr (8, [.ref sM, .ref sP, .ref sA, .int 0])), (xHan, .inr (3, [.int 0, .int 0, .int 0, .ref hH, .ref hR, .ref hT, .ref hM])), (hH, .inl (cI, 7, (.inl (fun _ => 0)))), (hT, .inl (cJ, 7, (.inr (.inl (fun _ => 0))))), (hM, .inl (cJ, 6, (.inr (.inl (fun _ => 0)))))] s.heap.size = A at hD ⊢
  have hA : ∀ q : Nat, s.heap.size ≤ q → A q := fun q h => by rw [← hAe]; exact Or.inr h
  have hS : va_S A s.heap s.heap [] := va_S.rf
  have hP : va_P (dC, dI) vwCl [(x0, .inr (10, [.ref xTape, .ref xReader, .ref xBag, .ref xBld, .ref xAng, .ref xSum, .ref xPik, .int 0, .ref xHan, .ref xIns, .ref xShr, .ref xSta, .ref xTur])), (xSum, .inr (8, [.ref sM, .ref sP, .ref sA, .int 0])), (xHan, .inr (3, [.int 0, .int 0, .int 0, .ref hH, .ref hR, .ref hT, .ref hM])), (hH, .inl (cI, 7, (.inl (fun _ => 0)))), (hT, .inl (cJ, 7, (.inr (.inl (fun _ => 0))))), (hM, .inl (cJ, 6, (.inr (.inl (fun _ => 0)))))] s.heap := hP
  have hl := lv_entry ([.ref x0, .int 12, .int p1]) (n := 3) (Nat.le_of_ble_eq_true rfl)
  rw [lg_entry_eq]
  generalize (lg_sl ([.ref x0, .int 12, .int p1]) ++ List.replicate (3 - (lg_sl ([.ref x0, .int 12, .int p1])).length) Slot.unset).toArray = ls at hl ⊢
  have hl : lv_has ls 3 [(0, .ref x0), (1, .int 12), (2, .int p1)] := hl
  refine lv_iload_n hx hb dX10_relationOf_0 rfl (lv_at hl 1 rfl) ?_
  have hPc := hP.sub (ws' := []) [] rfl
  have hDc := hD.sub (ws' := []) [] (by decide) rfl
  have hFc := va_free (wc := []) hD hS hA [] rfl
  refine va_calli (va_runS (As := [.int 12]) (rest := []) ⟨hx, hb, hml, hown, hts⟩ (c_X10_isSetOfSolids l dC dI cB cI cJ s.heap.size 12) (va_cwS 1 hts gX10_relationOf_X10_isSetOfSolids rfl rfl rfl (by decide +kernel) ⟨Nat.le_of_ble_eq_true rfl, Nat.le_of_ble_eq_true rfl⟩) ⟨fun a U g mk q => by obtain ⟨q0, q1, qP, qK, qD⟩ := q; exact ⟨q0, q1, qP, va_K.moved (u := U) (U := U.calling g mk a) (Vm.Alike.refl U.vm) qK, qD⟩, fun U hU hW => ⟨rfl, by rw [hU], by rw [hU]; exact hPc, va_K.moved hW.alike hK, hDc.weaken (fun _ _ _ _ => trivial)⟩⟩ rfl rfl hl.1 rfl (lv_room (Nat.le_of_ble_eq_true rfl)) dX10_relationOf_1 ⟨Nat.le_of_ble_eq_true rfl, Nat.le_of_ble_eq_true rfl⟩) hS (fun q _ h => hFc q h) hFc (fun r_1 u t H1 locs ht hvm hw hB hz1 hk1 hS => ?_)
  have hP1 : va_P (dC, dI) vwCl [] H1 := fun k q h => by simp at h
  have hD1 : va_D (va_A [] s.heap.size) [] := ⟨fun i j p q h => by simp at h, fun k q h => by simp at h⟩
  obtain ⟨hP, hD⟩ := va_join (wr := [(x0, .inr (10, [.ref xTape, .ref xReader, .ref xBag, .ref xBld, .ref xAng, .ref xSum, .ref xPik, .int 0, .ref xHan, .ref xIns, .ref xShr, .ref xSta, .ref xTur])), (xSum, .inr (8, [.ref sM, .ref sP, .ref sA, .int 0])), (xHan, .inr (3, [.int 0, .int 0, .int 0, .ref hH, .ref hR, .ref hT, .ref hM])), (hH, .inl (cI, 7, (.inl (fun _ => 0)))), (hT, .inl (cJ, 7, (.inr (.inl (fun _ => 0))))), (hM, .inl (cJ, 6, (.inr (.inl (fun _ => 0)))))]) (w1 := []) hP hD [] [0, 1, 2, 3, 4, 5] rfl rfl (by decide) (by decide) hk1 hFc hP1 hD1
  generalize H1 = H at hP hS ⊢
  have hP : va_P (dC, dI) vwCl [(x0, .inr (10, [.ref xTape, .ref xReader, .ref xBag, .ref xBld, .ref xAng, .ref xSum, .ref xPik, .int 0, .ref xHan, .ref xIns, .ref xShr, .ref xSta, .ref xTur])), (xSum, .inr (8, [.ref sM, .ref sP, .ref sA, .int 0])), (xHan, .inr (3, [.int 0, .int 0, .int 0, .ref hH, .ref hR, .ref hT, .ref hM])), (hH, .inl (cI, 7, (.inl (fun _ => 0)))), (hT, .inl (cJ, 7, (.inr (.inl (fun _ => 0))))), (hM, .inl (cJ, 6, (.inr (.inl (fun _ => 0)))))] H := hP
  have hD : va_D A [(x0, .inr (10, [.ref xTape, .ref xReader, .ref xBag, .ref xBld, .ref xAng, .ref xSum, .ref xPik, .int 0, .ref xHan, .ref xIns, .ref xShr, .ref xSta, .ref xTur])), (xSum, .inr (8, [.ref sM, .ref sP, .ref sA, .int 0])), (xHan, .inr (3, [.int 0, .int 0, .int 0, .ref hH, .ref hR, .ref hT, .ref hM])), (hH, .inl (cI, 7, (.inl (fun _ => 0)))), (hT, .inl (cJ, 7, (.inr (.inl (fun _ => 0))))), (hM, .inl (cJ, 6, (.inr (.inl (fun _ => 0)))))] := hD
  rcases hw with ⟨rfl, k_2⟩ | ⟨rfl, k_2⟩
  · refine lv_if_eq (tgt := 14) hx hb dX10_relationOf_4 (by decide) (fun _ => ?_) (fun c => absurd (by decide) c)
    refine lv_ldc (v := (-1000000)) hx hb hown (hts (.constant RX10 140 (-1000000)) (by decide +kernel)) dX10_relationOf_14 ?_
    refine W.widen (k := 0) (n := 0) (Nat.le_of_ble_eq_true rfl) (Nat.le_of_ble_eq_true rfl) ?_
    exact W.iret (v := (-1000000)) hx hb hr (fun t ht hW => ⟨⟨(-1000000), (), rfl, (absurd (by decide) k_2), trivial⟩, hS.F ht⟩) hS.2.2 dX10_relationOf_16
  · refine lv_if_eq (tgt := 14) hx hb dX10_relationOf_4 (by decide) (fun c => absurd c (by decide)) (fun _ => ?_)
    refine lv_iload_n hx hb dX10_relationOf_7 rfl (lv_at hl 2 rfl) ?_
    have hPc := hP.sub (ws' := []) [] rfl
    have hDc := hD.sub (ws' := []) [] (by decide) rfl
    have hFc := va_free (wc := []) hD hS hA [] rfl
    refine va_calli (va_runS (As := [.int p1]) (rest := []) ⟨hx, hb, hml, hown, hts⟩ (c_X10_isSolid l dC dI cB cI cJ H.size p1) (va_cwS 1 hts gX10_relationOf_X10_isSolid rfl rfl rfl (by decide +kernel) ⟨Nat.le_of_ble_eq_true rfl, Nat.le_of_ble_eq_true rfl⟩) ⟨fun a U g mk q => by obtain ⟨q0, q1, qP, qK, qD⟩ := q; exact ⟨q0, q1, qP, va_K.moved (u := U) (U := U.calling g mk a) (Vm.Alike.refl U.vm) qK, qD⟩, fun U hU hW => ⟨rfl, by rw [hU], by rw [hU]; exact hPc, va_K.moved hW.alike hK, hDc.weaken (fun _ _ _ _ => trivial)⟩⟩ rfl rfl hl.1 rfl (lv_room (Nat.le_of_ble_eq_true rfl)) dX10_relationOf_8 ⟨Nat.le_of_ble_eq_true rfl, Nat.le_of_ble_eq_true rfl⟩) hS (fun q _ h => hFc q h) hFc (fun r_3 u t H1 locs ht hvm hw hB hz1 hk1 hS => ?_)
    have hP1 : va_P (dC, dI) vwCl [] H1 := fun k q h => by simp at h
    have hD1 : va_D (va_A [] H.size) [] := ⟨fun i j p q h => by simp at h, fun k q h => by simp at h⟩
    obtain ⟨hP, hD⟩ := va_join (wr := [(x0, .inr (10, [.ref xTape, .ref xReader, .ref xBag, .ref xBld, .ref xAng, .ref xSum, .ref xPik, .int 0, .ref xHan, .ref xIns, .ref xShr, .ref xSta, .ref xTur])), (xSum, .inr (8, [.ref sM, .ref sP, .ref sA, .int 0])), (xHan, .inr (3, [.int 0, .int 0, .int 0, .ref hH, .ref hR, .ref hT, .ref hM])), (hH, .inl (cI, 7, (.inl (fun _ => 0)))), (hT, .inl (cJ, 7, (.inr (.inl (fun _ => 0))))), (hM, .inl (cJ, 6, (.inr (.inl (fun _ => 0)))))]) (w1 := []) hP hD [] [0, 1, 2, 3, 4, 5] rfl rfl (by decide) (by decide) hk1 hFc hP1 hD1
    generalize H1 = H at hP hS ⊢
    have hP : va_P (dC, dI) vwCl [(x0, .inr (10, [.ref xTape, .ref xReader, .ref xBag, .ref xBld, .ref xAng, .ref xSum, .ref xPik, .int 0, .ref xHan, .ref xIns, .ref xShr, .ref xSta, .ref xTur])), (xSum, .inr (8, [.ref sM, .ref sP, .ref sA, .int 0])), (xHan, .inr (3, [.int 0, .int 0, .int 0, .ref hH, .ref hR, .ref hT, .ref hM])), (hH, .inl (cI, 7, (.inl (fun _ => 0)))), (hT, .inl (cJ, 7, (.inr (.inl (fun _ => 0))))), (hM, .inl (cJ, 6, (.inr (.inl (fun _ => 0)))))] H := hP
    have hD : va_D A [(x0, .inr (10, [.ref xTape, .ref xReader, .ref xBag, .ref xBld, .ref xAng, .ref xSum, .ref xPik, .int 0, .ref xHan, .ref xIns, .ref xShr, .ref xSta, .ref xTur])), (xSum, .inr (8, [.ref sM, .ref sP, .ref sA, .int 0])), (xHan, .inr (3, [.int 0, .int 0, .int 0, .ref hH, .ref hR, .ref hT, .ref hM])), (hH, .inl (cI, 7, (.inl (fun _ => 0)))), (hT, .inl (cJ, 7, (.inr (.inl (fun _ => 0))))), (hM, .inl (cJ, 6, (.inr (.inl (fun _ => 0)))))] := hD
    rcases hw with ⟨rfl, k_4⟩ | ⟨rfl, k_4⟩
    · refine lv_if_ne (tgt := 17) hx hb dX10_relationOf_11 (by decide) (fun c => absurd (by decide) c) (fun _ => ?_)
      refine lv_ldc (v := (-1000000)) hx hb hown (hts (.constant RX10 140 (-1000000)) (by decide +kernel)) dX10_relationOf_14 ?_
      refine W.widen (k := 0) (n := 0) (Nat.le_of_ble_eq_true rfl) (Nat.le_of_ble_eq_true rfl) ?_
      exact W.iret (v := (-1000000)) hx hb hr (fun t ht hW => ⟨⟨(-1000000), (), rfl, (show (-1000000 : Int32) = sp_rel 12 p1 from (by unfold sp_rel; rw [if_neg (fun h9 => k_4 h9.2)])), trivial⟩, hS.F ht⟩) hS.2.2 dX10_relationOf_16
    · refine lv_if_ne (tgt := 17) hx hb dX10_relationOf_11 (by decide) (fun _ => ?_) (fun c => absurd c (by decide))
      refine lv_aload_n hx hb dX10_relationOf_17 rfl (lv_at hl 0 rfl) ?_
      refine lv_iload_n hx hb dX10_relationOf_18 rfl (lv_at hl 1 rfl) ?_
      have hPc := hP.sub (ws' := [(x0, .inr (10, [.ref xTape, .ref xReader, .ref xBag, .ref xBld, .ref xAng, .ref xSum, .ref xPik, .int 0, .ref xHan, .ref xIns, .ref xShr, .ref xSta, .ref xTur])), (xSum, .inr (8, [.ref sM, .ref sP, .ref sA, .int 0])), (xHan, .inr (3, [.int 0, .int 0, .int 0, .ref hH, .ref hR, .ref hT, .ref hM])), (hH, .inl (cI, 7, (.inl (fun _ => 0)))), (hT, .inl (cJ, 7, (.inr (.inl (fun _ => 0))))), (hM, .inl (cJ, 6, (.inr (.inl (fun _ => 0)))))]) [0, 1, 2, 3, 4, 5] rfl
      have hDc := hD.sub (ws' := [(x0, .inr (10, [.ref xTape, .ref xReader, .ref xBag, .ref xBld, .ref xAng, .ref xSum, .ref xPik, .int 0, .ref xHan, .ref xIns, .ref xShr, .ref xSta, .ref xTur])), (xSum, .inr (8, [.ref sM, .ref sP, .ref sA, .int 0])), (xHan, .inr (3, [.int 0, .int 0, .int 0, .ref hH, .ref hR, .ref hT, .ref hM])), (hH, .inl (cI, 7, (.inl (fun _ => 0)))), (hT, .inl (cJ, 7, (.inr (.inl (fun _ => 0))))), (hM, .inl (cJ, 6, (.inr (.inl (fun _ => 0)))))]) [0, 1, 2, 3, 4, 5] (by decide) rfl
      have hFc := va_free (wc := [(x0, .inr (10, [.ref xTape, .ref xReader, .ref xBag, .ref xBld, .ref xAng, .ref xSum, .ref xPik, .int 0, .ref xHan, .ref xIns, .ref xShr, .ref xSta, .ref xTur])), (xSum, .inr (8, [.ref sM, .ref sP, .ref sA, .int 0])), (xHan, .inr (3, [.int 0, .int 0, .int 0, .ref hH, .ref hR, .ref hT, .ref hM])), (hH, .inl (cI, 7, (.inl (fun _ => 0)))), (hT, .inl (cJ, 7, (.inr (.inl (fun _ => 0))))), (hM, .inl (cJ, 6, (.inr (.inl (fun _ => 0)))))]) hD hS hA [0, 1, 2, 3, 4, 5] rfl
      refine va_callv (va_runV (As := [.int 12]) (rest := []) ⟨hx, hb, hml, hown, hts⟩ (c_X10_hangSolids_12 l dC dI cB cI cJ H.size x0 xTape xReader xBag xBld xAng xSum xPik xHan xIns xShr xSta xTur sM sP sA hH hR hT hM (fun _ => 0) (fun _ => 0)) (cwV 1 hts gX10_relationOf_X10_hangSolids rfl rfl rfl (by decide +kernel) ⟨Nat.le_of_ble_eq_true rfl, Nat.le_of_ble_eq_true rfl⟩) ⟨fun a U g mk q => by obtain ⟨q0, q1, qP, qK, qD, qN0⟩ := q; exact ⟨q0, q1, qP, va_K.moved (u := U) (U := U.calling g mk a) (Vm.Alike.refl U.vm) qK, qD, va_Nw.same rfl rfl qN0⟩, va_recv hK hP (ci := 10) (q0 := 0) rfl rfl, fun U hU hW => ⟨rfl, by rw [hU], by rw [hU]; exact hPc, va_K.moved hW.alike hK, hDc.weaken (fun _ _ _ _ => trivial), va_Nw.warmM hW hN0⟩⟩ rfl rfl hl.1 rfl (lv_room (Nat.le_of_ble_eq_true rfl)) dX10_relationOf_19 ⟨Nat.le_of_ble_eq_true rfl, Nat.le_of_ble_eq_true rfl⟩) hS (fun q _ h => hFc q h) hFc (fun u t H1 locs ht hvm hw hB hz1 hk1 hS => ?_)
      obtain ⟨hP1, hK1, hD1⟩ := hB
      rw [ht] at hP1
      obtain ⟨hP, hD⟩ := va_join (wr := []) (w1 := [(x0, .inr (10, [.ref xTape, .ref xReader, .ref xBag, .ref xBld, .ref xAng, .ref xSum, .ref xPik, .int 0, .ref xHan, .ref xIns, .ref xShr, .ref xSta, .ref xTur])), (xHan, .inr (3, [.int 0, .int 2, .int 1, .ref hH, .ref hR, .ref hT, .ref hM])), (xSum, .inr (8, [.ref sM, .ref sP, .ref sA, .int 0])), (hH, .inl (cI, 7, (.inl (upd (upd (fun _ => 0) (0 : Int32).toNatClampNeg 2) (0 : Int32).toNatClampNeg 3)))), (hT, .inl (cJ, 7, (.inr (.inl (vp_updL (vp_updL (fun _ => 0) (0 : Int32).toNatClampNeg 1) (0 : Int32).toNatClampNeg 1))))), (hM, .inl (cJ, 6, (.inr (.inl (vp_updL (fun _ => 0) (0 : Int32).toNatClampNeg 1)))))]) hP hD [0, 1, 2, 3, 4, 5] [] rfl rfl (by decide) (by decide) hk1 hFc hP1 hD1
      generalize H1 = H at hP hS ⊢
      have hP : va_P (dC, dI) vwCl [(x0, .inr (10, [.ref xTape, .ref xReader, .ref xBag, .ref xBld, .ref xAng, .ref xSum, .ref xPik, .int 0, .ref xHan, .ref xIns, .ref xShr, .ref xSta, .ref xTur])), (xHan, .inr (3, [.int 0, .int 2, .int 1, .ref hH, .ref hR, .ref hT, .ref hM])), (xSum, .inr (8, [.ref sM, .ref sP, .ref sA, .int 0])), (hH, .inl (cI, 7, (.inl (upd (upd (fun _ => 0) (0 : Int32).toNatClampNeg 2) (0 : Int32).toNatClampNeg 3)))), (hT, .inl (cJ, 7, (.inr (.inl (vp_updL (vp_updL (fun _ => 0) (0 : Int32).toNatClampNeg 1) (0 : Int32).toNatClampNeg 1))))), (hM, .inl (cJ, 6, (.inr (.inl (vp_updL (fun _ => 0) (0 : Int32).toNatClampNeg 1)))))] H := hP
      have hD : va_D A [(x0, .inr (10, [.ref xTape, .ref xReader, .ref xBag, .ref xBld, .ref xAng, .ref xSum, .ref xPik, .int 0, .ref xHan, .ref xIns, .ref xShr, .ref xSta, .ref xTur])), (xHan, .inr (3, [.int 0, .int 2, .int 1, .ref hH, .ref hR, .ref hT, .ref hM])), (xSum, .inr (8, [.ref sM, .ref sP, .ref sA, .int 0])), (hH, .inl (cI, 7, (.inl (upd (upd (fun _ => 0) (0 : Int32).toNatClampNeg 2) (0 : Int32).toNatClampNeg 3)))), (hT, .inl (cJ, 7, (.inr (.inl (vp_updL (vp_updL (fun _ => 0) (0 : Int32).toNatClampNeg 1) (0 : Int32).toNatClampNeg 1))))), (hM, .inl (cJ, 6, (.inr (.inl (vp_updL (fun _ => 0) (0 : Int32).toNatClampNeg 1)))))] := hD
      refine lv_aload_n hx hb dX10_relationOf_22 rfl (lv_at hl 0 rfl) ?_
      refine va_get (D := (dC, dI)) (ci := 10) (v := .ref xHan) (C := RX10) (T := TX10) (N := 13) hx hb hts hiX10 hown hK hP 0 rfl rfl 8 (by decide) (hts (.fieldLink RX10 61 "ScissorsTable" "hang" "LScissorsTable$Hang;") (by decide +kernel)) (fun _ h9 => h9) rfl dX10_relationOf_23 ?_
      have hPc := hP.sub (ws' := [(xHan, .inr (3, [.int 0, .int 2, .int 1, .ref hH, .ref hR, .ref hT, .ref hM])), (hM, .inl (cJ, 6, (.inr (.inl (vp_updL (fun _ => 0) (0 : Int32).toNatClampNeg 1)))))]) [1, 5] rfl
      have hDc := hD.sub (ws' := [(xHan, .inr (3, [.int 0, .int 2, .int 1, .ref hH, .ref hR, .ref hT, .ref hM])), (hM, .inl (cJ, 6, (.inr (.inl (vp_updL (fun _ => 0) (0 : Int32).toNatClampNeg 1)))))]) [1, 5] (by decide) rfl
      have hFc := va_free (wc := [(xHan, .inr (3, [.int 0, .int 2, .int 1, .ref hH, .ref hR, .ref hT, .ref hM])), (hM, .inl (cJ, 6, (.inr (.inl (vp_updL (fun _ => 0) (0 : Int32).toNatClampNeg 1)))))]) hD hS hA [1, 5] rfl
      refine va_calli (va_runV (As := []) (rest := []) ⟨hx, hb, hml, hown, hts⟩ (c_X3_canTell_t2 l dC dI cB cI cJ H.size xHan hH hR hT hM) (cwV 0 hts gX10_relationOf_X3_canTell rfl rfl rfl (by decide +kernel) ⟨Nat.le_of_ble_eq_true rfl, Nat.le_of_ble_eq_true rfl⟩) ⟨fun a U g mk q => by obtain ⟨q0, q1, qP, qK, qD⟩ := q; exact ⟨q0, q1, qP, va_K.moved (u := U) (U := U.calling g mk a) (Vm.Alike.refl U.vm) qK, qD⟩, va_recv hK hP (ci := 3) (q0 := 1) rfl rfl, fun U hU hW => ⟨rfl, by rw [hU], by rw [hU]; exact hPc, va_K.moved hW.alike hK, hDc.weaken (fun _ _ _ _ => trivial)⟩⟩ rfl rfl hl.1 rfl (lv_room (Nat.le_of_ble_eq_true rfl)) dX10_relationOf_26 ⟨Nat.le_of_ble_eq_true rfl, Nat.le_of_ble_eq_true rfl⟩) hS (fun q _ h => hFc q h) hFc (fun r_5 u t H1 locs ht hvm hw hB hz1 hk1 hS => ?_)
      obtain ⟨hP1, hK1, hD1⟩ := hB
      rw [ht] at hP1
      obtain ⟨hP, hD⟩ := va_join (wr := [(x0, .inr (10, [.ref xTape, .ref xReader, .ref xBag, .ref xBld, .ref xAng, .ref xSum, .ref xPik, .int 0, .ref xHan, .ref xIns, .ref xShr, .ref xSta, .ref xTur])), (xSum, .inr (8, [.ref sM, .ref sP, .ref sA, .int 0])), (hH, .inl (cI, 7, (.inl (upd (upd (fun _ => 0) (0 : Int32).toNatClampNeg 2) (0 : Int32).toNatClampNeg 3)))), (hT, .inl (cJ, 7, (.inr (.inl (vp_updL (vp_updL (fun _ => 0) (0 : Int32).toNatClampNeg 1) (0 : Int32).toNatClampNeg 1)))))]) (w1 := [(xHan, .inr (3, [.int 0, .int 2, .int 1, .ref hH, .ref hR, .ref hT, .ref hM])), (hM, .inl (cJ, 6, (.inr (.inl (vp_updL (fun _ => 0) (0 : Int32).toNatClampNeg 1)))))]) hP hD [1, 5] [0, 2, 3, 4] rfl rfl (by decide) (by decide) hk1 hFc hP1 hD1
      generalize H1 = H at hP hS ⊢
      have hP : va_P (dC, dI) vwCl [(x0, .inr (10, [.ref xTape, .ref xReader, .ref xBag, .ref xBld, .ref xAng, .ref xSum, .ref xPik, .int 0, .ref xHan, .ref xIns, .ref xShr, .ref xSta, .ref xTur])), (xSum, .inr (8, [.ref sM, .ref sP, .ref sA, .int 0])), (hH, .inl (cI, 7, (.inl (upd (upd (fun _ => 0) (0 : Int32).toNatClampNeg 2) (0 : Int32).toNatClampNeg 3)))), (hT, .inl (cJ, 7, (.inr (.inl (vp_updL (vp_updL (fun _ => 0) (0 : Int32).toNatClampNeg 1) (0 : Int32).toNatClampNeg 1))))), (xHan, .inr (3, [.int 0, .int 2, .int 1, .ref hH, .ref hR, .ref hT, .ref hM])), (hM, .inl (cJ, 6, (.inr (.inl (vp_updL (fun _ => 0) (0 : Int32).toNatClampNeg 1)))))] H := hP
      have hD : va_D A [(x0, .inr (10, [.ref xTape, .ref xReader, .ref xBag, .ref xBld, .ref xAng, .ref xSum, .ref xPik, .int 0, .ref xHan, .ref xIns, .ref xShr, .ref xSta, .ref xTur])), (xSum, .inr (8, [.ref sM, .ref sP, .ref sA, .int 0])), (hH, .inl (cI, 7, (.inl (upd (upd (fun _ => 0) (0 : Int32).toNatClampNeg 2) (0 : Int32).toNatClampNeg 3)))), (hT, .inl (cJ, 7, (.inr (.inl (vp_updL (vp_updL (fun _ => 0) (0 : Int32).toNatClampNeg 1) (0 : Int32).toNatClampNeg 1))))), (xHan, .inr (3, [.int 0, .int 2, .int 1, .ref hH, .ref hR, .ref hT, .ref hM])), (hM, .inl (cJ, 6, (.inr (.inl (vp_updL (fun _ => 0) (0 : Int32).toNatClampNeg 1)))))] := hD
      have hr_5 := hw
      obtain rfl : r_5 = 1 := hr_5
      refine lv_if_ne (tgt := 35) hx hb dX10_relationOf_29 (by decide) (fun _ => ?_) (fun c => absurd c (by decide))
      rcases nk_split4 p1 (by (try simp only [nk_lt, nk_le, nk_eq, nk_wd, nk_c0, nk_c1, nk_c2, nk_c3, nk_c4, nk_c5, nk_c6, nk_c15, nk_c16, nk_c24, nk_c47, nk_c48, nk_c600, nk_c1728, nk_m1, nk_l0, nk_l1, nk_l2, nk_l3, nk_l5, nk_l15, nk_l24, nk_l47] at k_4); omega) with rfl | rfl | rfl | rfl
      · refine lv_iload_n hx hb dX10_relationOf_35 rfl (lv_at hl 1 rfl) ?_
        refine lv_iload_n hx hb dX10_relationOf_36 rfl (lv_at hl 2 rfl) ?_
        refine lv_ishr hx hb dX10_relationOf_37 ?_
        refine lv_topi (fun x_6 ex_6 => ?_)
        obtain rfl : x_6 = 12 := ex_6.trans (by first | rfl | decide)
        refine lv_iconst (v := 1) hx hb dX10_relationOf_38 (by decide) ?_
        refine lv_iand hx hb dX10_relationOf_39 ?_
        refine lv_topi (fun x_7 ex_7 => ?_)
        obtain rfl : x_7 = 0 := ex_7.trans (by first | rfl | decide)
        refine lv_if_ne (tgt := 45) hx hb dX10_relationOf_40 (by decide) (fun c => absurd (by decide) c) (fun _ => ?_)
        refine lv_iconst (v := 0) hx hb dX10_relationOf_43 (by decide) ?_
        refine W.widen (k := 0) (n := 0) (Nat.le_of_ble_eq_true rfl) (Nat.le_of_ble_eq_true rfl) ?_
        exact W.iret (v := 0) hx hb hr (fun t ht hW => ⟨⟨0, (), rfl, (by decide), trivial⟩, hS.F ht⟩) hS.2.2 dX10_relationOf_44
      · refine lv_iload_n hx hb dX10_relationOf_35 rfl (lv_at hl 1 rfl) ?_
        refine lv_iload_n hx hb dX10_relationOf_36 rfl (lv_at hl 2 rfl) ?_
        refine lv_ishr hx hb dX10_relationOf_37 ?_
        refine lv_topi (fun x_8 ex_8 => ?_)
        obtain rfl : x_8 = 6 := ex_8.trans (by first | rfl | decide)
        refine lv_iconst (v := 1) hx hb dX10_relationOf_38 (by decide) ?_
        refine lv_iand hx hb dX10_relationOf_39 ?_
        refine lv_topi (fun x_9 ex_9 => ?_)
        obtain rfl : x_9 = 0 := ex_9.trans (by first | rfl | decide)
        refine lv_if_ne (tgt := 45) hx hb dX10_relationOf_40 (by decide) (fun c => absurd (by decide) c) (fun _ => ?_)
        refine lv_iconst (v := 0) hx hb dX10_relationOf_43 (by decide) ?_
        refine W.widen (k := 0) (n := 0) (Nat.le_of_ble_eq_true rfl) (Nat.le_of_ble_eq_true rfl) ?_
        exact W.iret (v := 0) hx hb hr (fun t ht hW => ⟨⟨0, (), rfl, (by decide), trivial⟩, hS.F ht⟩) hS.2.2 dX10_relationOf_44
      · refine lv_iload_n hx hb dX10_relationOf_35 rfl (lv_at hl 1 rfl) ?_
        refine lv_iload_n hx hb dX10_relationOf_36 rfl (lv_at hl 2 rfl) ?_
        refine lv_ishr hx hb dX10_relationOf_37 ?_
        refine lv_topi (fun x_10 ex_10 => ?_)
        obtain rfl : x_10 = 3 := ex_10.trans (by first | rfl | decide)
        refine lv_iconst (v := 1) hx hb dX10_relationOf_38 (by decide) ?_
        refine lv_iand hx hb dX10_relationOf_39 ?_
        refine lv_topi (fun x_11 ex_11 => ?_)
        obtain rfl : x_11 = 1 := ex_11.trans (by first | rfl | decide)
        refine lv_if_ne (tgt := 45) hx hb dX10_relationOf_40 (by decide) (fun _ => ?_) (fun c => absurd c (by decide))
        refine lv_aload_n hx hb dX10_relationOf_45 rfl (lv_at hl 0 rfl) ?_
        refine va_get (D := (dC, dI)) (ci := 10) (v := .ref xHan) (C := RX10) (T := TX10) (N := 13) hx hb hts hiX10 hown hK hP 0 rfl rfl 8 (by decide) (hts (.fieldLink RX10 61 "ScissorsTable" "hang" "LScissorsTable$Hang;") (by decide +kernel)) (fun _ h9 => h9) rfl dX10_relationOf_46 ?_
        refine lv_iload_n hx hb dX10_relationOf_49 rfl (lv_at hl 1 rfl) ?_
        refine lv_iconst (v := 1) hx hb dX10_relationOf_50 (by decide) ?_
        refine lv_iload_n hx hb dX10_relationOf_51 rfl (lv_at hl 2 rfl) ?_
        refine lv_ishl hx hb dX10_relationOf_52 ?_
        refine lv_topi (fun x_12 ex_12 => ?_)
        obtain rfl : x_12 = 4 := ex_12.trans (by first | rfl | decide)
        refine lv_iconst (v := 1) hx hb dX10_relationOf_53 (by decide) ?_
        refine lv_isub hx hb dX10_relationOf_54 ?_
        refine lv_topi (fun x_13 ex_13 => ?_)
        obtain rfl : x_13 = 3 := ex_13.trans (by first | rfl | decide)
        refine lv_iand hx hb dX10_relationOf_55 ?_
        refine lv_topi (fun x_14 ex_14 => ?_)
        obtain rfl : x_14 = 0 := ex_14.trans (by first | rfl | decide)
        have hPc := hP.sub (ws' := []) [] rfl
        have hDc := hD.sub (ws' := []) [] (by decide) rfl
        have hFc := va_free (wc := []) hD hS hA [] rfl
        refine va_calli (va_runS (As := [.int 0]) (rest := [.ref xHan]) ⟨hx, hb, hml, hown, hts⟩ (c_J6_bitCount_0f7a4_0 l dC dI cB cI cJ H.size ) (va_cwS 1 hts gX10_relationOf_J6_bitCount_0f7a4 rfl rfl rfl (by decide +kernel) ⟨Nat.le_of_ble_eq_true rfl, Nat.le_of_ble_eq_true rfl⟩) ⟨fun a U g mk q => by obtain ⟨q0, q1, qP, qK, qD⟩ := q; exact ⟨q0, q1, qP, va_K.moved (u := U) (U := U.calling g mk a) (Vm.Alike.refl U.vm) qK, qD⟩, fun U hU hW => ⟨rfl, by rw [hU], by rw [hU]; exact hPc, va_K.moved hW.alike hK, hDc.weaken (fun _ _ _ _ => trivial)⟩⟩ rfl rfl hl.1 rfl (lv_room (Nat.le_of_ble_eq_true rfl)) dX10_relationOf_56 ⟨Nat.le_of_ble_eq_true rfl, Nat.le_of_ble_eq_true rfl⟩) hS (fun q _ h => hFc q h) hFc (fun r_15 u t H1 locs ht hvm hw hB hz1 hk1 hS => ?_)
        have hP1 : va_P (dC, dI) vwCl [] H1 := fun k q h => by simp at h
        have hD1 : va_D (va_A [] H.size) [] := ⟨fun i j p q h => by simp at h, fun k q h => by simp at h⟩
        obtain ⟨hP, hD⟩ := va_join (wr := [(x0, .inr (10, [.ref xTape, .ref xReader, .ref xBag, .ref xBld, .ref xAng, .ref xSum, .ref xPik, .int 0, .ref xHan, .ref xIns, .ref xShr, .ref xSta, .ref xTur])), (xSum, .inr (8, [.ref sM, .ref sP, .ref sA, .int 0])), (hH, .inl (cI, 7, (.inl (upd (upd (fun _ => 0) (0 : Int32).toNatClampNeg 2) (0 : Int32).toNatClampNeg 3)))), (hT, .inl (cJ, 7, (.inr (.inl (vp_updL (vp_updL (fun _ => 0) (0 : Int32).toNatClampNeg 1) (0 : Int32).toNatClampNeg 1))))), (xHan, .inr (3, [.int 0, .int 2, .int 1, .ref hH, .ref hR, .ref hT, .ref hM])), (hM, .inl (cJ, 6, (.inr (.inl (vp_updL (fun _ => 0) (0 : Int32).toNatClampNeg 1)))))]) (w1 := []) hP hD [] [0, 1, 2, 3, 4, 5] rfl rfl (by decide) (by decide) hk1 hFc hP1 hD1
        generalize H1 = H at hP hS ⊢
        have hP : va_P (dC, dI) vwCl [(x0, .inr (10, [.ref xTape, .ref xReader, .ref xBag, .ref xBld, .ref xAng, .ref xSum, .ref xPik, .int 0, .ref xHan, .ref xIns, .ref xShr, .ref xSta, .ref xTur])), (xSum, .inr (8, [.ref sM, .ref sP, .ref sA, .int 0])), (hH, .inl (cI, 7, (.inl (upd (upd (fun _ => 0) (0 : Int32).toNatClampNeg 2) (0 : Int32).toNatClampNeg 3)))), (hT, .inl (cJ, 7, (.inr (.inl (vp_updL (vp_updL (fun _ => 0) (0 : Int32).toNatClampNeg 1) (0 : Int32).toNatClampNeg 1))))), (xHan, .inr (3, [.int 0, .int 2, .int 1, .ref hH, .ref hR, .ref hT, .ref hM])), (hM, .inl (cJ, 6, (.inr (.inl (vp_updL (fun _ => 0) (0 : Int32).toNatClampNeg 1)))))] H := hP
        have hD : va_D A [(x0, .inr (10, [.ref xTape, .ref xReader, .ref xBag, .ref xBld, .ref xAng, .ref xSum, .ref xPik, .int 0, .ref xHan, .ref xIns, .ref xShr, .ref xSta, .ref xTur])), (xSum, .inr (8, [.ref sM, .ref sP, .ref sA, .int 0])), (hH, .inl (cI, 7, (.inl (upd (upd (fun _ => 0) (0 : Int32).toNatClampNeg 2) (0 : Int32).toNatClampNeg 3)))), (hT, .inl (cJ, 7, (.inr (.inl (vp_updL (vp_updL (fun _ => 0) (0 : Int32).toNatClampNeg 1) (0 : Int32).toNatClampNeg 1))))), (xHan, .inr (3, [.int 0, .int 2, .int 1, .ref hH, .ref hR, .ref hT, .ref hM])), (hM, .inl (cJ, 6, (.inr (.inl (vp_updL (fun _ => 0) (0 : Int32).toNatClampNeg 1)))))] := hD
        have hr_15 := hw
        obtain rfl : r_15 = 0 := hr_15
        have hPc := hP.sub (ws' := [(xHan, .inr (3, [.int 0, .int 2, .int 1, .ref hH, .ref hR, .ref hT, .ref hM])), (hM, .inl (cJ, 6, (.inr (.inl (vp_updL (fun _ => 0) (0 : Int32).toNatClampNeg 1)))))]) [4, 5] rfl
        have hDc := hD.sub (ws' := [(xHan, .inr (3, [.int 0, .int 2, .int 1, .ref hH, .ref hR, .ref hT, .ref hM])), (hM, .inl (cJ, 6, (.inr (.inl (vp_updL (fun _ => 0) (0 : Int32).toNatClampNeg 1)))))]) [4, 5] (by decide) rfl
        have hFc := va_free (wc := [(xHan, .inr (3, [.int 0, .int 2, .int 1, .ref hH, .ref hR, .ref hT, .ref hM])), (hM, .inl (cJ, 6, (.inr (.inl (vp_updL (fun _ => 0) (0 : Int32).toNatClampNeg 1)))))]) hD hS hA [4, 5] rfl
        refine va_calli (va_runV (As := [.int 0]) (rest := []) ⟨hx, hb, hml, hown, hts⟩ (c_X3_timesOf_t2_0 l dC dI cB cI cJ H.size xHan hH hR hT hM) (cwV 1 hts gX10_relationOf_X3_timesOf rfl rfl rfl (by decide +kernel) ⟨Nat.le_of_ble_eq_true rfl, Nat.le_of_ble_eq_true rfl⟩) ⟨fun a U g mk q => by obtain ⟨q0, q1, qP, qK, qD⟩ := q; exact ⟨q0, q1, qP, va_K.moved (u := U) (U := U.calling g mk a) (Vm.Alike.refl U.vm) qK, qD⟩, va_recv hK hP (ci := 3) (q0 := 4) rfl rfl, fun U hU hW => ⟨rfl, by rw [hU], by rw [hU]; exact hPc, va_K.moved hW.alike hK, hDc.weaken (fun _ _ _ _ => trivial)⟩⟩ rfl rfl hl.1 rfl (lv_room (Nat.le_of_ble_eq_true rfl)) dX10_relationOf_59 ⟨Nat.le_of_ble_eq_true rfl, Nat.le_of_ble_eq_true rfl⟩) hS (fun q _ h => hFc q h) hFc (fun r_16 u t H1 locs ht hvm hw hB hz1 hk1 hS => ?_)
        have hP1 : va_P (dC, dI) vwCl [] H1 := fun k q h => by simp at h
        have hD1 : va_D (va_A [(xHan, .inr (3, [.int 0, .int 2, .int 1, .ref hH, .ref hR, .ref hT, .ref hM])), (hM, .inl (cJ, 6, (.inr (.inl (vp_updL (fun _ => 0) (0 : Int32).toNatClampNeg 1)))))] H.size) [] := ⟨fun i j p q h => by simp at h, fun k q h => by simp at h⟩
        obtain ⟨hP, hD⟩ := va_join (wr := [(x0, .inr (10, [.ref xTape, .ref xReader, .ref xBag, .ref xBld, .ref xAng, .ref xSum, .ref xPik, .int 0, .ref xHan, .ref xIns, .ref xShr, .ref xSta, .ref xTur])), (xSum, .inr (8, [.ref sM, .ref sP, .ref sA, .int 0])), (hH, .inl (cI, 7, (.inl (upd (upd (fun _ => 0) (0 : Int32).toNatClampNeg 2) (0 : Int32).toNatClampNeg 3)))), (hT, .inl (cJ, 7, (.inr (.inl (vp_updL (vp_updL (fun _ => 0) (0 : Int32).toNatClampNeg 1) (0 : Int32).toNatClampNeg 1)))))]) (w1 := []) hP hD [4, 5] [0, 1, 2, 3] rfl rfl (by decide) (by decide) hk1 hFc hP1 hD1
        generalize H1 = H at hP hS ⊢
        have hP : va_P (dC, dI) vwCl [(x0, .inr (10, [.ref xTape, .ref xReader, .ref xBag, .ref xBld, .ref xAng, .ref xSum, .ref xPik, .int 0, .ref xHan, .ref xIns, .ref xShr, .ref xSta, .ref xTur])), (xSum, .inr (8, [.ref sM, .ref sP, .ref sA, .int 0])), (hH, .inl (cI, 7, (.inl (upd (upd (fun _ => 0) (0 : Int32).toNatClampNeg 2) (0 : Int32).toNatClampNeg 3)))), (hT, .inl (cJ, 7, (.inr (.inl (vp_updL (vp_updL (fun _ => 0) (0 : Int32).toNatClampNeg 1) (0 : Int32).toNatClampNeg 1)))))] H := hP
        have hD : va_D A [(x0, .inr (10, [.ref xTape, .ref xReader, .ref xBag, .ref xBld, .ref xAng, .ref xSum, .ref xPik, .int 0, .ref xHan, .ref xIns, .ref xShr, .ref xSta, .ref xTur])), (xSum, .inr (8, [.ref sM, .ref sP, .ref sA, .int 0])), (hH, .inl (cI, 7, (.inl (upd (upd (fun _ => 0) (0 : Int32).toNatClampNeg 2) (0 : Int32).toNatClampNeg 3)))), (hT, .inl (cJ, 7, (.inr (.inl (vp_updL (vp_updL (fun _ => 0) (0 : Int32).toNatClampNeg 1) (0 : Int32).toNatClampNeg 1)))))] := hD
        have hr_16 := hw
        obtain rfl : r_16 = 1 := hr_16
        refine W.widen (k := 0) (n := 0) (Nat.le_of_ble_eq_true rfl) (Nat.le_of_ble_eq_true rfl) ?_
        exact W.iret (v := 1) hx hb hr (fun t ht hW => ⟨⟨1, (), rfl, (by decide), trivial⟩, hS.F ht⟩) hS.2.2 dX10_relationOf_62
      · refine lv_iload_n hx hb dX10_relationOf_35 rfl (lv_at hl 1 rfl) ?_
        refine lv_iload_n hx hb dX10_relationOf_36 rfl (lv_at hl 2 rfl) ?_
        refine lv_ishr hx hb dX10_relationOf_37 ?_
        refine lv_topi (fun x_17 ex_17 => ?_)
        obtain rfl : x_17 = 1 := ex_17.trans (by first | rfl | decide)
        refine lv_iconst (v := 1) hx hb dX10_relationOf_38 (by decide) ?_
        refine lv_iand hx hb dX10_relationOf_39 ?_
        refine lv_topi (fun x_18 ex_18 => ?_)
        obtain rfl : x_18 = 1 := ex_18.trans (by first | rfl | decide)
        refine lv_if_ne (tgt := 45) hx hb dX10_relationOf_40 (by decide) (fun _ => ?_) (fun c => absurd c (by decide))
        refine lv_aload_n hx hb dX10_relationOf_45 rfl (lv_at hl 0 rfl) ?_
        refine va_get (D := (dC, dI)) (ci := 10) (v := .ref xHan) (C := RX10) (T := TX10) (N := 13) hx hb hts hiX10 hown hK hP 0 rfl rfl 8 (by decide) (hts (.fieldLink RX10 61 "ScissorsTable" "hang" "LScissorsTable$Hang;") (by decide +kernel)) (fun _ h9 => h9) rfl dX10_relationOf_46 ?_
        refine lv_iload_n hx hb dX10_relationOf_49 rfl (lv_at hl 1 rfl) ?_
        refine lv_iconst (v := 1) hx hb dX10_relationOf_50 (by decide) ?_
        refine lv_iload_n hx hb dX10_relationOf_51 rfl (lv_at hl 2 rfl) ?_
        refine lv_ishl hx hb dX10_relationOf_52 ?_
        refine lv_topi (fun x_19 ex_19 => ?_)
        obtain rfl : x_19 = 8 := ex_19.trans (by first | rfl | decide)
        refine lv_iconst (v := 1) hx hb dX10_relationOf_53 (by decide) ?_
        refine lv_isub hx hb dX10_relationOf_54 ?_
        refine lv_topi (fun x_20 ex_20 => ?_)
        obtain rfl : x_20 = 7 := ex_20.trans (by first | rfl | decide)
        refine lv_iand hx hb dX10_relationOf_55 ?_
        refine lv_topi (fun x_21 ex_21 => ?_)
        obtain rfl : x_21 = 4 := ex_21.trans (by first | rfl | decide)
        have hPc := hP.sub (ws' := []) [] rfl
        have hDc := hD.sub (ws' := []) [] (by decide) rfl
        have hFc := va_free (wc := []) hD hS hA [] rfl
        refine va_calli (va_runS (As := [.int 4]) (rest := [.ref xHan]) ⟨hx, hb, hml, hown, hts⟩ (c_J6_bitCount_0f7a4_4 l dC dI cB cI cJ H.size ) (va_cwS 1 hts gX10_relationOf_J6_bitCount_0f7a4 rfl rfl rfl (by decide +kernel) ⟨Nat.le_of_ble_eq_true rfl, Nat.le_of_ble_eq_true rfl⟩) ⟨fun a U g mk q => by obtain ⟨q0, q1, qP, qK, qD⟩ := q; exact ⟨q0, q1, qP, va_K.moved (u := U) (U := U.calling g mk a) (Vm.Alike.refl U.vm) qK, qD⟩, fun U hU hW => ⟨rfl, by rw [hU], by rw [hU]; exact hPc, va_K.moved hW.alike hK, hDc.weaken (fun _ _ _ _ => trivial)⟩⟩ rfl rfl hl.1 rfl (lv_room (Nat.le_of_ble_eq_true rfl)) dX10_relationOf_56 ⟨Nat.le_of_ble_eq_true rfl, Nat.le_of_ble_eq_true rfl⟩) hS (fun q _ h => hFc q h) hFc (fun r_22 u t H1 locs ht hvm hw hB hz1 hk1 hS => ?_)
        have hP1 : va_P (dC, dI) vwCl [] H1 := fun k q h => by simp at h
        have hD1 : va_D (va_A [] H.size) [] := ⟨fun i j p q h => by simp at h, fun k q h => by simp at h⟩
        obtain ⟨hP, hD⟩ := va_join (wr := [(x0, .inr (10, [.ref xTape, .ref xReader, .ref xBag, .ref xBld, .ref xAng, .ref xSum, .ref xPik, .int 0, .ref xHan, .ref xIns, .ref xShr, .ref xSta, .ref xTur])), (xSum, .inr (8, [.ref sM, .ref sP, .ref sA, .int 0])), (hH, .inl (cI, 7, (.inl (upd (upd (fun _ => 0) (0 : Int32).toNatClampNeg 2) (0 : Int32).toNatClampNeg 3)))), (hT, .inl (cJ, 7, (.inr (.inl (vp_updL (vp_updL (fun _ => 0) (0 : Int32).toNatClampNeg 1) (0 : Int32).toNatClampNeg 1))))), (xHan, .inr (3, [.int 0, .int 2, .int 1, .ref hH, .ref hR, .ref hT, .ref hM])), (hM, .inl (cJ, 6, (.inr (.inl (vp_updL (fun _ => 0) (0 : Int32).toNatClampNeg 1)))))]) (w1 := []) hP hD [] [0, 1, 2, 3, 4, 5] rfl rfl (by decide) (by decide) hk1 hFc hP1 hD1
        generalize H1 = H at hP hS ⊢
        have hP : va_P (dC, dI) vwCl [(x0, .inr (10, [.ref xTape, .ref xReader, .ref xBag, .ref xBld, .ref xAng, .ref xSum, .ref xPik, .int 0, .ref xHan, .ref xIns, .ref xShr, .ref xSta, .ref xTur])), (xSum, .inr (8, [.ref sM, .ref sP, .ref sA, .int 0])), (hH, .inl (cI, 7, (.inl (upd (upd (fun _ => 0) (0 : Int32).toNatClampNeg 2) (0 : Int32).toNatClampNeg 3)))), (hT, .inl (cJ, 7, (.inr (.inl (vp_updL (vp_updL (fun _ => 0) (0 : Int32).toNatClampNeg 1) (0 : Int32).toNatClampNeg 1))))), (xHan, .inr (3, [.int 0, .int 2, .int 1, .ref hH, .ref hR, .ref hT, .ref hM])), (hM, .inl (cJ, 6, (.inr (.inl (vp_updL (fun _ => 0) (0 : Int32).toNatClampNeg 1)))))] H := hP
        have hD : va_D A [(x0, .inr (10, [.ref xTape, .ref xReader, .ref xBag, .ref xBld, .ref xAng, .ref xSum, .ref xPik, .int 0, .ref xHan, .ref xIns, .ref xShr, .ref xSta, .ref xTur])), (xSum, .inr (8, [.ref sM, .ref sP, .ref sA, .int 0])), (hH, .inl (cI, 7, (.inl (upd (upd (fun _ => 0) (0 : Int32).toNatClampNeg 2) (0 : Int32).toNatClampNeg 3)))), (hT, .inl (cJ, 7, (.inr (.inl (vp_updL (vp_updL (fun _ => 0) (0 : Int32).toNatClampNeg 1) (0 : Int32).toNatClampNeg 1))))), (xHan, .inr (3, [.int 0, .int 2, .int 1, .ref hH, .ref hR, .ref hT, .ref hM])), (hM, .inl (cJ, 6, (.inr (.inl (vp_updL (fun _ => 0) (0 : Int32).toNatClampNeg 1)))))] := hD
        have hr_22 := hw
        obtain rfl : r_22 = 1 := hr_22
        have hPc := hP.sub (ws' := [(xHan, .inr (3, [.int 0, .int 2, .int 1, .ref hH, .ref hR, .ref hT, .ref hM])), (hM, .inl (cJ, 6, (.inr (.inl (vp_updL (fun _ => 0) (0 : Int32).toNatClampNeg 1)))))]) [4, 5] rfl
        have hDc := hD.sub (ws' := [(xHan, .inr (3, [.int 0, .int 2, .int 1, .ref hH, .ref hR, .ref hT, .ref hM])), (hM, .inl (cJ, 6, (.inr (.inl (vp_updL (fun _ => 0) (0 : Int32).toNatClampNeg 1)))))]) [4, 5] (by decide) rfl
        have hFc := va_free (wc := [(xHan, .inr (3, [.int 0, .int 2, .int 1, .ref hH, .ref hR, .ref hT, .ref hM])), (hM, .inl (cJ, 6, (.inr (.inl (vp_updL (fun _ => 0) (0 : Int32).toNatClampNeg 1)))))]) hD hS hA [4, 5] rfl
        refine va_calli (va_runV (As := [.int 1]) (rest := []) ⟨hx, hb, hml, hown, hts⟩ (c_X3_timesOf_t2_1 l dC dI cB cI cJ H.size xHan hH hR hT hM) (cwV 1 hts gX10_relationOf_X3_timesOf rfl rfl rfl (by decide +kernel) ⟨Nat.le_of_ble_eq_true rfl, Nat.le_of_ble_eq_true rfl⟩) ⟨fun a U g mk q => by obtain ⟨q0, q1, qP, qK, qD⟩ := q; exact ⟨q0, q1, qP, va_K.moved (u := U) (U := U.calling g mk a) (Vm.Alike.refl U.vm) qK, qD⟩, va_recv hK hP (ci := 3) (q0 := 4) rfl rfl, fun U hU hW => ⟨rfl, by rw [hU], by rw [hU]; exact hPc, va_K.moved hW.alike hK, hDc.weaken (fun _ _ _ _ => trivial)⟩⟩ rfl rfl hl.1 rfl (lv_room (Nat.le_of_ble_eq_true rfl)) dX10_relationOf_59 ⟨Nat.le_of_ble_eq_true rfl, Nat.le_of_ble_eq_true rfl⟩) hS (fun q _ h => hFc q h) hFc (fun r_23 u t H1 locs ht hvm hw hB hz1 hk1 hS => ?_)
        have hP1 : va_P (dC, dI) vwCl [] H1 := fun k q h => by simp at h
        have hD1 : va_D (va_A [(xHan, .inr (3, [.int 0, .int 2, .int 1, .ref hH, .ref hR, .ref hT, .ref hM])), (hM, .inl (cJ, 6, (.inr (.inl (vp_updL (fun _ => 0) (0 : Int32).toNatClampNeg 1)))))] H.size) [] := ⟨fun i j p q h => by simp at h, fun k q h => by simp at h⟩
        obtain ⟨hP, hD⟩ := va_join (wr := [(x0, .inr (10, [.ref xTape, .ref xReader, .ref xBag, .ref xBld, .ref xAng, .ref xSum, .ref xPik, .int 0, .ref xHan, .ref xIns, .ref xShr, .ref xSta, .ref xTur])), (xSum, .inr (8, [.ref sM, .ref sP, .ref sA, .int 0])), (hH, .inl (cI, 7, (.inl (upd (upd (fun _ => 0) (0 : Int32).toNatClampNeg 2) (0 : Int32).toNatClampNeg 3)))), (hT, .inl (cJ, 7, (.inr (.inl (vp_updL (vp_updL (fun _ => 0) (0 : Int32).toNatClampNeg 1) (0 : Int32).toNatClampNeg 1)))))]) (w1 := []) hP hD [4, 5] [0, 1, 2, 3] rfl rfl (by decide) (by decide) hk1 hFc hP1 hD1
        generalize H1 = H at hP hS ⊢
        have hP : va_P (dC, dI) vwCl [(x0, .inr (10, [.ref xTape, .ref xReader, .ref xBag, .ref xBld, .ref xAng, .ref xSum, .ref xPik, .int 0, .ref xHan, .ref xIns, .ref xShr, .ref xSta, .ref xTur])), (xSum, .inr (8, [.ref sM, .ref sP, .ref sA, .int 0])), (hH, .inl (cI, 7, (.inl (upd (upd (fun _ => 0) (0 : Int32).toNatClampNeg 2) (0 : Int32).toNatClampNeg 3)))), (hT, .inl (cJ, 7, (.inr (.inl (vp_updL (vp_updL (fun _ => 0) (0 : Int32).toNatClampNeg 1) (0 : Int32).toNatClampNeg 1)))))] H := hP
        have hD : va_D A [(x0, .inr (10, [.ref xTape, .ref xReader, .ref xBag, .ref xBld, .ref xAng, .ref xSum, .ref xPik, .int 0, .ref xHan, .ref xIns, .ref xShr, .ref xSta, .ref xTur])), (xSum, .inr (8, [.ref sM, .ref sP, .ref sA, .int 0])), (hH, .inl (cI, 7, (.inl (upd (upd (fun _ => 0) (0 : Int32).toNatClampNeg 2) (0 : Int32).toNatClampNeg 3)))), (hT, .inl (cJ, 7, (.inr (.inl (vp_updL (vp_updL (fun _ => 0) (0 : Int32).toNatClampNeg 1) (0 : Int32).toNatClampNeg 1)))))] := hD
        have hr_23 := hw
        obtain rfl : r_23 = 0 := hr_23
        refine W.widen (k := 0) (n := 0) (Nat.le_of_ble_eq_true rfl) (Nat.le_of_ble_eq_true rfl) ?_
        exact W.iret (v := 0) hx hb hr (fun t ht hW => ⟨⟨0, (), rfl, (by decide), trivial⟩, hS.F ht⟩) hS.2.2 dX10_relationOf_62
set_option maxHeartbeats 4000000 in
set_option maxRecDepth 100000 in
theorem c_X10_relationOf_13 (l : Launch) (dC : Nat → ClassId) (dI : Nat → Nat → Nat) (cB cI cJ : ClassId) (sz : Nat) (x0 xTape xReader xBag xBld xAng xSum xPik xHan xIns xShr xSta xTur sM sP sA hH hR hT hM : Nat) (p1 : Int32) : Met l yX10_relationOf wsX10_relationOf ({ frames := 12, cells := 0, slots := 0, locals := 400 }) (va_Pc [.ref x0, .int 13, .int p1] (fun U => U.heap.size = sz ∧ va_P (dC, dI) vwCl [(x0, .inr (10, [.ref xTape, .ref xReader, .ref xBag, .ref xBld, .ref xAng, .ref xSum, .ref xPik, .int 0, .ref xHan, .ref xIns, .ref xShr, .ref xSta, .ref xTur])), (xSum, .inr (8, [.ref sM, .ref sP, .ref sA, .int 0])), (xHan, .inr (3, [.int 0, .int 0, .int 0, .ref hH, .ref hR, .ref hT, .ref hM])), (hH, .inl (cI, 7, (.inl (fun _ => 0)))), (hT, .inl (cJ, 7, (.inr (.inl (fun _ => 0))))), (hM, .inl (cJ, 6, (.inr (.inl (fun _ => 0)))))] U.heap ∧ va_K (dC, dI) vwCl [(cB, .byte), (cI, .int), (cJ, .long)] U ∧ va_D (fun _ => True) [(x0, .inr (10, [.ref xTape, .ref xReader, .ref xBag, .ref xBld, .ref xAng, .ref xSum, .ref xPik, .int 0, .ref xHan, .ref xIns, .ref xShr, .ref xSta, .ref xTur])), (xSum, .inr (8, [.ref sM, .ref sP, .ref sA, .int 0])), (xHan, .inr (3, [.int 0, .int 0, .int 0, .ref hH, .ref hR, .ref hT, .ref hM])), (hH, .inl (cI, 7, (.inl (fun _ => 0)))), (hT, .inl (cJ, 7, (.inr (.inl (fun _ => 0))))), (hM, .inl (cJ, 6, (.inr (.inl (fun _ => 0)))))] ∧ va_Nw (.methodLinkNest RX3 62 yX10_gcd "ScissorsTable") U)) (va_Qi (fun (r : Int32) (_ : Unit) => r = sp_rel 13 p1) (fun _ _ => True) (va_A [(x0, .inr (10, [.ref xTape, .ref xReader, .ref xBag, .ref xBld, .ref xAng, .ref xSum, .ref xPik, .int 0, .ref xHan, .ref xIns, .ref xShr, .ref xSta, .ref xTur])), (xSum, .inr (8, [.ref sM, .ref sP, .ref sA, .int 0])), (xHan, .inr (3, [.int 0, .int 0, .int 0, .ref hH, .ref hR, .ref hT, .ref hM])), (hH, .inl (cI, 7, (.inl (fun _ => 0)))), (hT, .inl (cJ, 7, (.inr (.inl (fun _ => 0))))), (hM, .inl (cJ, 6, (.inr (.inl (fun _ => 0)))))] sz)) 0 0 (va_A [(x0, .inr (10, [.ref xTape, .ref xReader, .ref xBag, .ref xBld, .ref xAng, .ref xSum, .ref xPik, .int 0, .ref xHan, .ref xIns, .ref xShr, .ref xSta, .ref xTur])), (xSum, .inr (8, [.ref sM, .ref sP, .ref sA, .int 0])), (xHan, .inr (3, [.int 0, .int 0, .int 0, .ref hH, .ref hR, .ref hT, .ref hM])), (hH, .inl (cI, 7, (.inl (fun _ => 0)))), (hT, .inl (cJ, 7, (.inr (.inl (fun _ => 0))))), (hM, .inl (cJ, 6, (.inr (.inl (fun _ => 0)))))] sz) := by
  refine Met.ofW (cc := cX10_relationOf) (maxL := 3) (ret := (some .int)) (by decide) rfl ?_
  intro p e s m args below meth c s₁ B hml hv
  obtain ⟨rfl, hsz, hP, hK, hD0, hN0⟩ := hv
  have hx := B.exec
  have hb := B.bytes
  have hr := B.returns
  have hts := atoms_spec (ws := wsX10_relationOf) B.pre
  have hown : s.vm.findClass RX10 = some m.cls := findClass_of_methodNamed B.named
  have hlocks := B.notSynchronized
  have hiX10 : ∀ w ∈ u_ws RX10 TX10 13, w ∈ wsX10_relationOf := by decide +kernel
  subst hsz
  have hD := hD0.self (sz := s.heap.size)
  generalize hAe : va_A [(x0, .inr (10, [.ref xTape, .ref xReader, .ref xBag, .ref xBld, .ref xAng, .ref xSum, .ref xPik, .int 0, .ref xHan, .ref xIns, .ref xShr, .ref xSta, .ref xTur])), (xSum, .inr (8, [.ref sM, .ref sP, .ref sA, .int 0])), (xHan, .inr (3, [.int 0, .int 0, .int 0, .ref hH, .ref hR, .ref hT, .ref hM])), (hH, .inl (cI, 7, (.inl (fun _ => 0)))), (hT, .inl (cJ, 7, (.inr (.inl (fun _ => 0))))), (hM, .inl (cJ, 6, (.inr (.inl (fun _ => 0)))))] s.heap.size = A at hD ⊢
  have hA : ∀ q : Nat, s.heap.size ≤ q → A q := fun q h => by rw [← hAe]; exact Or.inr h
  have hS : va_S A s.heap s.heap [] := va_S.rf
  have hP : va_P (dC, dI) vwCl [(x0, .inr (10, [.ref xTape, .ref xReader, .ref xBag, .ref xBld, .ref xAng, .ref xSum, .ref xPik, .int 0, .ref xHan, .ref xIns, .ref xShr, .ref xSta, .ref xTur])), (xSum, .inr (8, [.ref sM, .ref sP, .ref sA, .int 0])), (xHan, .inr (3, [.int 0, .int 0, .int 0, .ref hH, .ref hR, .ref hT, .ref hM])), (hH, .inl (cI, 7, (.inl (fun _ => 0)))), (hT, .inl (cJ, 7, (.inr (.inl (fun _ => 0))))), (hM, .inl (cJ, 6, (.inr (.inl (fun _ => 0)))))] s.heap := hP
  have hl := lv_entry ([.ref x0, .int 13, .int p1]) (n := 3) (Nat.le_of_ble_eq_true rfl)
  rw [lg_entry_eq]
  generalize (lg_sl ([.ref x0, .int 13, .int p1]) ++ List.replicate (3 - (lg_sl ([.ref x0, .int 13, .int p1])).length) Slot.unset).toArray = ls at hl ⊢
  have hl : lv_has ls 3 [(0, .ref x0), (1, .int 13), (2, .int p1)] := hl
  refine lv_iload_n hx hb dX10_relationOf_0 rfl (lv_at hl 1 rfl) ?_
  have hPc := hP.sub (ws' := []) [] rfl
  have hDc := hD.sub (ws' := []) [] (by decide) rfl
  have hFc := va_free (wc := []) hD hS hA [] rfl
  refine va_calli (va_runS (As := [.int 13]) (rest := []) ⟨hx, hb, hml, hown, hts⟩ (c_X10_isSetOfSolids l dC dI cB cI cJ s.heap.size 13) (va_cwS 1 hts gX10_relationOf_X10_isSetOfSolids rfl rfl rfl (by decide +kernel) ⟨Nat.le_of_ble_eq_true rfl, Nat.le_of_ble_eq_true rfl⟩) ⟨fun a U g mk q => by obtain ⟨q0, q1, qP, qK, qD⟩ := q; exact ⟨q0, q1, qP, va_K.moved (u := U) (U := U.calling g mk a) (Vm.Alike.refl U.vm) qK, qD⟩, fun U hU hW => ⟨rfl, by rw [hU], by rw [hU]; exact hPc, va_K.moved hW.alike hK, hDc.weaken (fun _ _ _ _ => trivial)⟩⟩ rfl rfl hl.1 rfl (lv_room (Nat.le_of_ble_eq_true rfl)) dX10_relationOf_1 ⟨Nat.le_of_ble_eq_true rfl, Nat.le_of_ble_eq_true rfl⟩) hS (fun q _ h => hFc q h) hFc (fun r_1 u t H1 locs ht hvm hw hB hz1 hk1 hS => ?_)
  have hP1 : va_P (dC, dI) vwCl [] H1 := fun k q h => by simp at h
  have hD1 : va_D (va_A [] s.heap.size) [] := ⟨fun i j p q h => by simp at h, fun k q h => by simp at h⟩
  obtain ⟨hP, hD⟩ := va_join (wr := [(x0, .inr (10, [.ref xTape, .ref xReader, .ref xBag, .ref xBld, .ref xAng, .ref xSum, .ref xPik, .int 0, .ref xHan, .ref xIns, .ref xShr, .ref xSta, .ref xTur])), (xSum, .inr (8, [.ref sM, .ref sP, .ref sA, .int 0])), (xHan, .inr (3, [.int 0, .int 0, .int 0, .ref hH, .ref hR, .ref hT, .ref hM])), (hH, .inl (cI, 7, (.inl (fun _ => 0)))), (hT, .inl (cJ, 7, (.inr (.inl (fun _ => 0))))), (hM, .inl (cJ, 6, (.inr (.inl (fun _ => 0)))))]) (w1 := []) hP hD [] [0, 1, 2, 3, 4, 5] rfl rfl (by decide) (by decide) hk1 hFc hP1 hD1
  generalize H1 = H at hP hS ⊢
  have hP : va_P (dC, dI) vwCl [(x0, .inr (10, [.ref xTape, .ref xReader, .ref xBag, .ref xBld, .ref xAng, .ref xSum, .ref xPik, .int 0, .ref xHan, .ref xIns, .ref xShr, .ref xSta, .ref xTur])), (xSum, .inr (8, [.ref sM, .ref sP, .ref sA, .int 0])), (xHan, .inr (3, [.int 0, .int 0, .int 0, .ref hH, .ref hR, .ref hT, .ref hM])), (hH, .inl (cI, 7, (.inl (fun _ => 0)))), (hT, .inl (cJ, 7, (.inr (.inl (fun _ => 0))))), (hM, .inl (cJ, 6, (.inr (.inl (fun _ => 0)))))] H := hP
  have hD : va_D A [(x0, .inr (10, [.ref xTape, .ref xReader, .ref xBag, .ref xBld, .ref xAng, .ref xSum, .ref xPik, .int 0, .ref xHan, .ref xIns, .ref xShr, .ref xSta, .ref xTur])), (xSum, .inr (8, [.ref sM, .ref sP, .ref sA, .int 0])), (xHan, .inr (3, [.int 0, .int 0, .int 0, .ref hH, .ref hR, .ref hT, .ref hM])), (hH, .inl (cI, 7, (.inl (fun _ => 0)))), (hT, .inl (cJ, 7, (.inr (.inl (fun _ => 0))))), (hM, .inl (cJ, 6, (.inr (.inl (fun _ => 0)))))] := hD
  rcases hw with ⟨rfl, k_2⟩ | ⟨rfl, k_2⟩
  · refine lv_if_eq (tgt := 14) hx hb dX10_relationOf_4 (by decide) (fun _ => ?_) (fun c => absurd (by decide) c)
    refine lv_ldc (v := (-1000000)) hx hb hown (hts (.constant RX10 140 (-1000000)) (by decide +kernel)) dX10_relationOf_14 ?_
    refine W.widen (k := 0) (n := 0) (Nat.le_of_ble_eq_true rfl) (Nat.le_of_ble_eq_true rfl) ?_
    exact W.iret (v := (-1000000)) hx hb hr (fun t ht hW => ⟨⟨(-1000000), (), rfl, (absurd (by decide) k_2), trivial⟩, hS.F ht⟩) hS.2.2 dX10_relationOf_16
  · refine lv_if_eq (tgt := 14) hx hb dX10_relationOf_4 (by decide) (fun c => absurd c (by decide)) (fun _ => ?_)
    refine lv_iload_n hx hb dX10_relationOf_7 rfl (lv_at hl 2 rfl) ?_
    have hPc := hP.sub (ws' := []) [] rfl
    have hDc := hD.sub (ws' := []) [] (by decide) rfl
    have hFc := va_free (wc := []) hD hS hA [] rfl
    refine va_calli (va_runS (As := [.int p1]) (rest := []) ⟨hx, hb, hml, hown, hts⟩ (c_X10_isSolid l dC dI cB cI cJ H.size p1) (va_cwS 1 hts gX10_relationOf_X10_isSolid rfl rfl rfl (by decide +kernel) ⟨Nat.le_of_ble_eq_true rfl, Nat.le_of_ble_eq_true rfl⟩) ⟨fun a U g mk q => by obtain ⟨q0, q1, qP, qK, qD⟩ := q; exact ⟨q0, q1, qP, va_K.moved (u := U) (U := U.calling g mk a) (Vm.Alike.refl U.vm) qK, qD⟩, fun U hU hW => ⟨rfl, by rw [hU], by rw [hU]; exact hPc, va_K.moved hW.alike hK, hDc.weaken (fun _ _ _ _ => trivial)⟩⟩ rfl rfl hl.1 rfl (lv_room (Nat.le_of_ble_eq_true rfl)) dX10_relationOf_8 ⟨Nat.le_of_ble_eq_true rfl, Nat.le_of_ble_eq_true rfl⟩) hS (fun q _ h => hFc q h) hFc (fun r_3 u t H1 locs ht hvm hw hB hz1 hk1 hS => ?_)
    have hP1 : va_P (dC, dI) vwCl [] H1 := fun k q h => by simp at h
    have hD1 : va_D (va_A [] H.size) [] := ⟨fun i j p q h => by simp at h, fun k q h => by simp at h⟩
    obtain ⟨hP, hD⟩ := va_join (wr := [(x0, .inr (10, [.ref xTape, .ref xReader, .ref xBag, .ref xBld, .ref xAng, .ref xSum, .ref xPik, .int 0, .ref xHan, .ref xIns, .ref xShr, .ref xSta, .ref xTur])), (xSum, .inr (8, [.ref sM, .ref sP, .ref sA, .int 0])), (xHan, .inr (3, [.int 0, .int 0, .int 0, .ref hH, .ref hR, .ref hT, .ref hM])), (hH, .inl (cI, 7, (.inl (fun _ => 0)))), (hT, .inl (cJ, 7, (.inr (.inl (fun _ => 0))))), (hM, .inl (cJ, 6, (.inr (.inl (fun _ => 0)))))]) (w1 := []) hP hD [] [0, 1, 2, 3, 4, 5] rfl rfl (by decide) (by decide) hk1 hFc hP1 hD1
    generalize H1 = H at hP hS ⊢
    have hP : va_P (dC, dI) vwCl [(x0, .inr (10, [.ref xTape, .ref xReader, .ref xBag, .ref xBld, .ref xAng, .ref xSum, .ref xPik, .int 0, .ref xHan, .ref xIns, .ref xShr, .ref xSta, .ref xTur])), (xSum, .inr (8, [.ref sM, .ref sP, .ref sA, .int 0])), (xHan, .inr (3, [.int 0, .int 0, .int 0, .ref hH, .ref hR, .ref hT, .ref hM])), (hH, .inl (cI, 7, (.inl (fun _ => 0)))), (hT, .inl (cJ, 7, (.inr (.inl (fun _ => 0))))), (hM, .inl (cJ, 6, (.inr (.inl (fun _ => 0)))))] H := hP
    have hD : va_D A [(x0, .inr (10, [.ref xTape, .ref xReader, .ref xBag, .ref xBld, .ref xAng, .ref xSum, .ref xPik, .int 0, .ref xHan, .ref xIns, .ref xShr, .ref xSta, .ref xTur])), (xSum, .inr (8, [.ref sM, .ref sP, .ref sA, .int 0])), (xHan, .inr (3, [.int 0, .int 0, .int 0, .ref hH, .ref hR, .ref hT, .ref hM])), (hH, .inl (cI, 7, (.inl (fun _ => 0)))), (hT, .inl (cJ, 7, (.inr (.inl (fun _ => 0))))), (hM, .inl (cJ, 6, (.inr (.inl (fun _ => 0)))))] := hD
    rcases hw with ⟨rfl, k_4⟩ | ⟨rfl, k_4⟩
    · refine lv_if_ne (tgt := 17) hx hb dX10_relationOf_11 (by decide) (fun c => absurd (by decide) c) (fun _ => ?_)
      refine lv_ldc (v := (-1000000)) hx hb hown (hts (.constant RX10 140 (-1000000)) (by decide +kernel)) dX10_relationOf_14 ?_
      refine W.widen (k := 0) (n := 0) (Nat.le_of_ble_eq_true rfl) (Nat.le_of_ble_eq_true rfl) ?_
      exact W.iret (v := (-1000000)) hx hb hr (fun t ht hW => ⟨⟨(-1000000), (), rfl, (show (-1000000 : Int32) = sp_rel 13 p1 from (by unfold sp_rel; rw [if_neg (fun h9 => k_4 h9.2)])), trivial⟩, hS.F ht⟩) hS.2.2 dX10_relationOf_16
    · refine lv_if_ne (tgt := 17) hx hb dX10_relationOf_11 (by decide) (fun _ => ?_) (fun c => absurd c (by decide))
      refine lv_aload_n hx hb dX10_relationOf_17 rfl (lv_at hl 0 rfl) ?_
      refine lv_iload_n hx hb dX10_relationOf_18 rfl (lv_at hl 1 rfl) ?_
      have hPc := hP.sub (ws' := [(x0, .inr (10, [.ref xTape, .ref xReader, .ref xBag, .ref xBld, .ref xAng, .ref xSum, .ref xPik, .int 0, .ref xHan, .ref xIns, .ref xShr, .ref xSta, .ref xTur])), (xSum, .inr (8, [.ref sM, .ref sP, .ref sA, .int 0])), (xHan, .inr (3, [.int 0, .int 0, .int 0, .ref hH, .ref hR, .ref hT, .ref hM])), (hH, .inl (cI, 7, (.inl (fun _ => 0)))), (hT, .inl (cJ, 7, (.inr (.inl (fun _ => 0))))), (hM, .inl (cJ, 6, (.inr (.inl (fun _ => 0)))))]) [0, 1, 2, 3, 4, 5] rfl
      have hDc := hD.sub (ws' := [(x0, .inr (10, [.ref xTape, .ref xReader, .ref xBag, .ref xBld, .ref xAng, .ref xSum, .ref xPik, .int 0, .ref xHan, .ref xIns, .ref xShr, .ref xSta, .ref xTur])), (xSum, .inr (8, [.ref sM, .ref sP, .ref sA, .int 0])), (xHan, .inr (3, [.int 0, .int 0, .int 0, .ref hH, .ref hR, .ref hT, .ref hM])), (hH, .inl (cI, 7, (.inl (fun _ => 0)))), (hT, .inl (cJ, 7, (.inr (.inl (fun _ => 0))))), (hM, .inl (cJ, 6, (.inr (.inl (fun _ => 0)))))]) [0, 1, 2, 3, 4, 5] (by decide) rfl
      have hFc := va_free (wc := [(x0, .inr (10, [.ref xTape, .ref xReader, .ref xBag, .ref xBld, .ref xAng, .ref xSum, .ref xPik, .int 0, .ref xHan, .ref xIns, .ref xShr, .ref xSta, .ref xTur])), (xSum, .inr (8, [.ref sM, .ref sP, .ref sA, .int 0])), (xHan, .inr (3, [.int 0, .int 0, .int 0, .ref hH, .ref hR, .ref hT, .ref hM])), (hH, .inl (cI, 7, (.inl (fun _ => 0)))), (hT, .inl (cJ, 7, (.inr (.inl (fun _ => 0))))), (hM, .inl (cJ, 6, (.inr (.inl (fun _ => 0)))))]) hD hS hA [0, 1, 2, 3, 4, 5] rfl
      refine va_callv (va_runV (As := [.int 13]) (rest := []) ⟨hx, hb, hml, hown, hts⟩ (c_X10_hangSolids_13 l dC dI cB cI cJ H.size x0 xTape xReader xBag xBld xAng xSum xPik xHan xIns xShr xSta xTur sM sP sA hH hR hT hM (fun _ => 0) (fun _ => 0)) (cwV 1 hts gX10_relationOf_X10_hangSolids rfl rfl rfl (by decide +kernel) ⟨Nat.le_of_ble_eq_true rfl, Nat.le_of_ble_eq_true rfl⟩) ⟨fun a U g mk q => by obtain ⟨q0, q1, qP, qK, qD, qN0⟩ := q; exact ⟨q0, q1, qP, va_K.moved (u := U) (U := U.calling g mk a) (Vm.Alike.refl U.vm) qK, qD, va_Nw.same rfl rfl qN0⟩, va_recv hK hP (ci := 10) (q0 := 0) rfl rfl, fun U hU hW => ⟨rfl, by rw [hU], by rw [hU]; exact hPc, va_K.moved hW.alike hK, hDc.weaken (fun _ _ _ _ => trivial), va_Nw.warmM hW hN0⟩⟩ rfl rfl hl.1 rfl (lv_room (Nat.le_of_ble_eq_true rfl)) dX10_relationOf_19 ⟨Nat.le_of_ble_eq_true rfl, Nat.le_of_ble_eq_true rfl⟩) hS (fun q _ h => hFc q h) hFc (fun u t H1 locs ht hvm hw hB hz1 hk1 hS => ?_)
      obtain ⟨hP1, hK1, hD1⟩ := hB
      rw [ht] at hP1
      obtain ⟨hP, hD⟩ := va_join (wr := []) (w1 := [(x0, .inr (10, [.ref xTape, .ref xReader, .ref xBag, .ref xBld, .ref xAng, .ref xSum, .ref xPik, .int 0, .ref xHan, .ref xIns, .ref xShr, .ref xSta, .ref xTur])), (xHan, .inr (3, [.int 0, .int 3, .int 1, .ref hH, .ref hR, .ref hT, .ref hM])), (xSum, .inr (8, [.ref sM, .ref sP, .ref sA, .int 0])), (hH, .inl (cI, 7, (.inl (upd (upd (upd (fun _ => 0) (0 : Int32).toNatClampNeg 0) (0 : Int32).toNatClampNeg 2) (0 : Int32).toNatClampNeg 3)))), (hT, .inl (cJ, 7, (.inr (.inl (vp_updL (vp_updL (vp_updL (fun _ => 0) (0 : Int32).toNatClampNeg 1) (0 : Int32).toNatClampNeg 1) (0 : Int32).toNatClampNeg 1))))), (hM, .inl (cJ, 6, (.inr (.inl (vp_updL (fun _ => 0) (0 : Int32).toNatClampNeg 1)))))]) hP hD [0, 1, 2, 3, 4, 5] [] rfl rfl (by decide) (by decide) hk1 hFc hP1 hD1
      generalize H1 = H at hP hS ⊢
      have hP : va_P (dC, dI) vwCl [(x0, .inr (10, [.ref xTape, .ref xReader, .ref xBag, .ref xBld, .ref xAng, .ref xSum, .ref xPik, .int 0, .ref xHan, .ref xIns, .ref xShr, .ref xSta, .ref xTur])), (xHan, .inr (3, [.int 0, .int 3, .int 1, .ref hH, .ref hR, .ref hT, .ref hM])), (xSum, .inr (8, [.ref sM, .ref sP, .ref sA, .int 0])), (hH, .inl (cI, 7, (.inl (upd (upd (upd (fun _ => 0) (0 : Int32).toNatClampNeg 0) (0 : Int32).toNatClampNeg 2) (0 : Int32).toNatClampNeg 3)))), (hT, .inl (cJ, 7, (.inr (.inl (vp_updL (vp_updL (vp_updL (fun _ => 0) (0 : Int32).toNatClampNeg 1) (0 : Int32).toNatClampNeg 1) (0 : Int32).toNatClampNeg 1))))), (hM, .inl (cJ, 6, (.inr (.inl (vp_updL (fun _ => 0) (0 : Int32).toNatClampNeg 1)))))] H := hP
      have hD : va_D A [(x0, .inr (10, [.ref xTape, .ref xReader, .ref xBag, .ref xBld, .ref xAng, .ref xSum, .ref xPik, .int 0, .ref xHan, .ref xIns, .ref xShr, .ref xSta, .ref xTur])), (xHan, .inr (3, [.int 0, .int 3, .int 1, .ref hH, .ref hR, .ref hT, .ref hM])), (xSum, .inr (8, [.ref sM, .ref sP, .ref sA, .int 0])), (hH, .inl (cI, 7, (.inl (upd (upd (upd (fun _ => 0) (0 : Int32).toNatClampNeg 0) (0 : Int32).toNatClampNeg 2) (0 : Int32).toNatClampNeg 3)))), (hT, .inl (cJ, 7, (.inr (.inl (vp_updL (vp_updL (vp_updL (fun _ => 0) (0 : Int32).toNatClampNeg 1) (0 : Int32).toNatClampNeg 1) (0 : Int32).toNatClampNeg 1))))), (hM, .inl (cJ, 6, (.inr (.inl (vp_updL (fun _ => 0) (0 : Int32).toNatClampNeg 1)))))] := hD
      refine lv_aload_n hx hb dX10_relationOf_22 rfl (lv_at hl 0 rfl) ?_
      refine va_get (D := (dC, dI)) (ci := 10) (v := .ref xHan) (C := RX10) (T := TX10) (N := 13) hx hb hts hiX10 hown hK hP 0 rfl rfl 8 (by decide) (hts (.fieldLink RX10 61 "ScissorsTable" "hang" "LScissorsTable$Hang;") (by decide +kernel)) (fun _ h9 => h9) rfl dX10_relationOf_23 ?_
      have hPc := hP.sub (ws' := [(xHan, .inr (3, [.int 0, .int 3, .int 1, .ref hH, .ref hR, .ref hT, .ref hM])), (hM, .inl (cJ, 6, (.inr (.inl (vp_updL (fun _ => 0) (0 : Int32).toNatClampNeg 1)))))]) [1, 5] rfl
      have hDc := hD.sub (ws' := [(xHan, .inr (3, [.int 0, .int 3, .int 1, .ref hH, .ref hR, .ref hT, .ref hM])), (hM, .inl (cJ, 6, (.inr (.inl (vp_updL (fun _ => 0) (0 : Int32).toNatClampNeg 1)))))]) [1, 5] (by decide) rfl
      have hFc := va_free (wc := [(xHan, .inr (3, [.int 0, .int 3, .int 1, .ref hH, .ref hR, .ref hT, .ref hM])), (hM, .inl (cJ, 6, (.inr (.inl (vp_updL (fun _ => 0) (0 : Int32).toNatClampNeg 1)))))]) hD hS hA [1, 5] rfl
      refine va_calli (va_runV (As := []) (rest := []) ⟨hx, hb, hml, hown, hts⟩ (c_X3_canTell_t3 l dC dI cB cI cJ H.size xHan hH hR hT hM) (cwV 0 hts gX10_relationOf_X3_canTell rfl rfl rfl (by decide +kernel) ⟨Nat.le_of_ble_eq_true rfl, Nat.le_of_ble_eq_true rfl⟩) ⟨fun a U g mk q => by obtain ⟨q0, q1, qP, qK, qD⟩ := q; exact ⟨q0, q1, qP, va_K.moved (u := U) (U := U.calling g mk a) (Vm.Alike.refl U.vm) qK, qD⟩, va_recv hK hP (ci := 3) (q0 := 1) rfl rfl, fun U hU hW => ⟨rfl, by rw [hU], by rw [hU]; exact hPc, va_K.moved hW.alike hK, hDc.weaken (fun _ _ _ _ => trivial)⟩⟩ rfl rfl hl.1 rfl (lv_room (Nat.le_of_ble_eq_true rfl)) dX10_relationOf_26 ⟨Nat.le_of_ble_eq_true rfl, Nat.le_of_ble_eq_true rfl⟩) hS (fun q _ h => hFc q h) hFc (fun r_5 u t H1 locs ht hvm hw hB hz1 hk1 hS => ?_)
      obtain ⟨hP1, hK1, hD1⟩ := hB
      rw [ht] at hP1
      obtain ⟨hP, hD⟩ := va_join (wr := [(x0, .inr (10, [.ref xTape, .ref xReader, .ref xBag, .ref xBld, .ref xAng, .ref xSum, .ref xPik, .int 0, .ref xHan, .ref xIns, .ref xShr, .ref xSta, .ref xTur])), (xSum, .inr (8, [.ref sM, .ref sP, .ref sA, .int 0])), (hH, .inl (cI, 7, (.inl (upd (upd (upd (fun _ => 0) (0 : Int32).toNatClampNeg 0) (0 : Int32).toNatClampNeg 2) (0 : Int32).toNatClampNeg 3)))), (hT, .inl (cJ, 7, (.inr (.inl (vp_updL (vp_updL (vp_updL (fun _ => 0) (0 : Int32).toNatClampNeg 1) (0 : Int32).toNatClampNeg 1) (0 : Int32).toNatClampNeg 1)))))]) (w1 := [(xHan, .inr (3, [.int 0, .int 3, .int 1, .ref hH, .ref hR, .ref hT, .ref hM])), (hM, .inl (cJ, 6, (.inr (.inl (vp_updL (fun _ => 0) (0 : Int32).toNatClampNeg 1)))))]) hP hD [1, 5] [0, 2, 3, 4] rfl rfl (by decide) (by decide) hk1 hFc hP1 hD1
      generalize H1 = H at hP hS ⊢
      have hP : va_P (dC, dI) vwCl [(x0, .inr (10, [.ref xTape, .ref xReader, .ref xBag, .ref xBld, .ref xAng, .ref xSum, .ref xPik, .int 0, .ref xHan, .ref xIns, .ref xShr, .ref xSta, .ref xTur])), (xSum, .inr (8, [.ref sM, .ref sP, .ref sA, .int 0])), (hH, .inl (cI, 7, (.inl (upd (upd (upd (fun _ => 0) (0 : Int32).toNatClampNeg 0) (0 : Int32).toNatClampNeg 2) (0 : Int32).toNatClampNeg 3)))), (hT, .inl (cJ, 7, (.inr (.inl (vp_updL (vp_updL (vp_updL (fun _ => 0) (0 : Int32).toNatClampNeg 1) (0 : Int32).toNatClampNeg 1) (0 : Int32).toNatClampNeg 1))))), (xHan, .inr (3, [.int 0, .int 3, .int 1, .ref hH, .ref hR, .ref hT, .ref hM])), (hM, .inl (cJ, 6, (.inr (.inl (vp_updL (fun _ => 0) (0 : Int32).toNatClampNeg 1)))))] H := hP
      have hD : va_D A [(x0, .inr (10, [.ref xTape, .ref xReader, .ref xBag, .ref xBld, .ref xAng, .ref xSum, .ref xPik, .int 0, .ref xHan, .ref xIns, .ref xShr, .ref xSta, .ref xTur])), (xSum, .inr (8, [.ref sM, .ref sP, .ref sA, .int 0])), (hH, .inl (cI, 7, (.inl (upd (upd (upd (fun _ => 0) (0 : Int32).toNatClampNeg 0) (0 : Int32).toNatClampNeg 2) (0 : Int32).toNatClampNeg 3)))), (hT, .inl (cJ, 7, (.inr (.inl (vp_updL (vp_updL (vp_updL (fun _ => 0) (0 : Int32).toNatClampNeg 1) (0 : Int32).toNatClampNeg 1) (0 : Int32).toNatClampNeg 1))))), (xHan, .inr (3, [.int 0, .int 3, .int 1, .ref hH, .ref hR, .ref hT, .ref hM])), (hM, .inl (cJ, 6, (.inr (.inl (vp_updL (fun _ => 0) (0 : Int32).toNatClampNeg 1)))))] := hD
      have hr_5 := hw
      obtain rfl : r_5 = 1 := hr_5
      refine lv_if_ne (tgt := 35) hx hb dX10_relationOf_29 (by decide) (fun _ => ?_) (fun c => absurd c (by decide))
      rcases nk_split4 p1 (by (try simp only [nk_lt, nk_le, nk_eq, nk_wd, nk_c0, nk_c1, nk_c2, nk_c3, nk_c4, nk_c5, nk_c6, nk_c15, nk_c16, nk_c24, nk_c47, nk_c48, nk_c600, nk_c1728, nk_m1, nk_l0, nk_l1, nk_l2, nk_l3, nk_l5, nk_l15, nk_l24, nk_l47] at k_4); omega) with rfl | rfl | rfl | rfl
      · refine lv_iload_n hx hb dX10_relationOf_35 rfl (lv_at hl 1 rfl) ?_
        refine lv_iload_n hx hb dX10_relationOf_36 rfl (lv_at hl 2 rfl) ?_
        refine lv_ishr hx hb dX10_relationOf_37 ?_
        refine lv_topi (fun x_6 ex_6 => ?_)
        obtain rfl : x_6 = 13 := ex_6.trans (by first | rfl | decide)
        refine lv_iconst (v := 1) hx hb dX10_relationOf_38 (by decide) ?_
        refine lv_iand hx hb dX10_relationOf_39 ?_
        refine lv_topi (fun x_7 ex_7 => ?_)
        obtain rfl : x_7 = 1 := ex_7.trans (by first | rfl | decide)
        refine lv_if_ne (tgt := 45) hx hb dX10_relationOf_40 (by decide) (fun _ => ?_) (fun c => absurd c (by decide))
        refine lv_aload_n hx hb dX10_relationOf_45 rfl (lv_at hl 0 rfl) ?_
        refine va_get (D := (dC, dI)) (ci := 10) (v := .ref xHan) (C := RX10) (T := TX10) (N := 13) hx hb hts hiX10 hown hK hP 0 rfl rfl 8 (by decide) (hts (.fieldLink RX10 61 "ScissorsTable" "hang" "LScissorsTable$Hang;") (by decide +kernel)) (fun _ h9 => h9) rfl dX10_relationOf_46 ?_
        refine lv_iload_n hx hb dX10_relationOf_49 rfl (lv_at hl 1 rfl) ?_
        refine lv_iconst (v := 1) hx hb dX10_relationOf_50 (by decide) ?_
        refine lv_iload_n hx hb dX10_relationOf_51 rfl (lv_at hl 2 rfl) ?_
        refine lv_ishl hx hb dX10_relationOf_52 ?_
        refine lv_topi (fun x_8 ex_8 => ?_)
        obtain rfl : x_8 = 1 := ex_8.trans (by first | rfl | decide)
        refine lv_iconst (v := 1) hx hb dX10_relationOf_53 (by decide) ?_
        refine lv_isub hx hb dX10_relationOf_54 ?_
        refine lv_topi (fun x_9 ex_9 => ?_)
        obtain rfl : x_9 = 0 := ex_9.trans (by first | rfl | decide)
        refine lv_iand hx hb dX10_relationOf_55 ?_
        refine lv_topi (fun x_10 ex_10 => ?_)
        obtain rfl : x_10 = 0 := ex_10.trans (by first | rfl | decide)
        have hPc := hP.sub (ws' := []) [] rfl
        have hDc := hD.sub (ws' := []) [] (by decide) rfl
        have hFc := va_free (wc := []) hD hS hA [] rfl
        refine va_calli (va_runS (As := [.int 0]) (rest := [.ref xHan]) ⟨hx, hb, hml, hown, hts⟩ (c_J6_bitCount_0f7a4_0 l dC dI cB cI cJ H.size ) (va_cwS 1 hts gX10_relationOf_J6_bitCount_0f7a4 rfl rfl rfl (by decide +kernel) ⟨Nat.le_of_ble_eq_true rfl, Nat.le_of_ble_eq_true rfl⟩) ⟨fun a U g mk q => by obtain ⟨q0, q1, qP, qK, qD⟩ := q; exact ⟨q0, q1, qP, va_K.moved (u := U) (U := U.calling g mk a) (Vm.Alike.refl U.vm) qK, qD⟩, fun U hU hW => ⟨rfl, by rw [hU], by rw [hU]; exact hPc, va_K.moved hW.alike hK, hDc.weaken (fun _ _ _ _ => trivial)⟩⟩ rfl rfl hl.1 rfl (lv_room (Nat.le_of_ble_eq_true rfl)) dX10_relationOf_56 ⟨Nat.le_of_ble_eq_true rfl, Nat.le_of_ble_eq_true rfl⟩) hS (fun q _ h => hFc q h) hFc (fun r_11 u t H1 locs ht hvm hw hB hz1 hk1 hS => ?_)
        have hP1 : va_P (dC, dI) vwCl [] H1 := fun k q h => by simp at h
        have hD1 : va_D (va_A [] H.size) [] := ⟨fun i j p q h => by simp at h, fun k q h => by simp at h⟩
        obtain ⟨hP, hD⟩ := va_join (wr := [(x0, .inr (10, [.ref xTape, .ref xReader, .ref xBag, .ref xBld, .ref xAng, .ref xSum, .ref xPik, .int 0, .ref xHan, .ref xIns, .ref xShr, .ref xSta, .ref xTur])), (xSum, .inr (8, [.ref sM, .ref sP, .ref sA, .int 0])), (hH, .inl (cI, 7, (.inl (upd (upd (upd (fun _ => 0) (0 : Int32).toNatClampNeg 0) (0 : Int32).toNatClampNeg 2) (0 : Int32).toNatClampNeg 3)))), (hT, .inl (cJ, 7, (.inr (.inl (vp_updL (vp_updL (vp_updL (fun _ => 0) (0 : Int32).toNatClampNeg 1) (0 : Int32).toNatClampNeg 1) (0 : Int32).toNatClampNeg 1))))), (xHan, .inr (3, [.int 0, .int 3, .int 1, .ref hH, .ref hR, .ref hT, .ref hM])), (hM, .inl (cJ, 6, (.inr (.inl (vp_updL (fun _ => 0) (0 : Int32).toNatClampNeg 1)))))]) (w1 := []) hP hD [] [0, 1, 2, 3, 4, 5] rfl rfl (by decide) (by decide) hk1 hFc hP1 hD1
        generalize H1 = H at hP hS ⊢
        have hP : va_P (dC, dI) vwCl [(x0, .inr (10, [.ref xTape, .ref xReader, .ref xBag, .ref xBld, .ref xAng, .ref xSum, .ref xPik, .int 0, .ref xHan, .ref xIns, .ref xShr, .ref xSta, .ref xTur])), (xSum, .inr (8, [.ref sM, .ref sP, .ref sA, .int 0])), (hH, .inl (cI, 7, (.inl (upd (upd (upd (fun _ => 0) (0 : Int32).toNatClampNeg 0) (0 : Int32).toNatClampNeg 2) (0 : Int32).toNatClampNeg 3)))), (hT, .inl (cJ, 7, (.inr (.inl (vp_updL (vp_updL (vp_updL (fun _ => 0) (0 : Int32).toNatClampNeg 1) (0 : Int32).toNatClampNeg 1) (0 : Int32).toNatClampNeg 1))))), (xHan, .inr (3, [.int 0, .int 3, .int 1, .ref hH, .ref hR, .ref hT, .ref hM])), (hM, .inl (cJ, 6, (.inr (.inl (vp_updL (fun _ => 0) (0 : Int32).toNatClampNeg 1)))))] H := hP
        have hD : va_D A [(x0, .inr (10, [.ref xTape, .ref xReader, .ref xBag, .ref xBld, .ref xAng, .ref xSum, .ref xPik, .int 0, .ref xHan, .ref xIns, .ref xShr, .ref xSta, .ref xTur])), (xSum, .inr (8, [.ref sM, .ref sP, .ref sA, .int 0])), (hH, .inl (cI, 7, (.inl (upd (upd (upd (fun _ => 0) (0 : Int32).toNatClampNeg 0) (0 : Int32).toNatClampNeg 2) (0 : Int32).toNatClampNeg 3)))), (hT, .inl (cJ, 7, (.inr (.inl (vp_updL (vp_updL (vp_updL (fun _ => 0) (0 : Int32).toNatClampNeg 1) (0 : Int32).toNatClampNeg 1) (0 : Int32).toNatClampNeg 1))))), (xHan, .inr (3, [.int 0, .int 3, .int 1, .ref hH, .ref hR, .ref hT, .ref hM])), (hM, .inl (cJ, 6, (.inr (.inl (vp_updL (fun _ => 0) (0 : Int32).toNatClampNeg 1)))))] := hD
        have hr_11 := hw
        obtain rfl : r_11 = 0 := hr_11
        have hPc := hP.sub (ws' := [(xHan, .inr (3, [.int 0, .int 3, .int 1, .ref hH, .ref hR, .ref hT, .ref hM])), (hM, .inl (cJ, 6, (.inr (.inl (vp_updL (fun _ => 0) (0 : Int32).toNatClampNeg 1)))))]) [4, 5] rfl
        have hDc := hD.sub (ws' := [(xHan, .inr (3, [.int 0, .int 3, .int 1, .ref hH, .ref hR, .ref hT, .ref hM])), (hM, .inl (cJ, 6, (.inr (.inl (vp_updL (fun _ => 0) (0 : Int32).toNatClampNeg 1)))))]) [4, 5] (by decide) rfl
        have hFc := va_free (wc := [(xHan, .inr (3, [.int 0, .int 3, .int 1, .ref hH, .ref hR, .ref hT, .ref hM])), (hM, .inl (cJ, 6, (.inr (.inl (vp_updL (fun _ => 0) (0 : Int32).toNatClampNeg 1)))))]) hD hS hA [4, 5] rfl
        refine va_calli (va_runV (As := [.int 0]) (rest := []) ⟨hx, hb, hml, hown, hts⟩ (c_X3_timesOf_t3_0 l dC dI cB cI cJ H.size xHan hH hR hT hM) (cwV 1 hts gX10_relationOf_X3_timesOf rfl rfl rfl (by decide +kernel) ⟨Nat.le_of_ble_eq_true rfl, Nat.le_of_ble_eq_true rfl⟩) ⟨fun a U g mk q => by obtain ⟨q0, q1, qP, qK, qD⟩ := q; exact ⟨q0, q1, qP, va_K.moved (u := U) (U := U.calling g mk a) (Vm.Alike.refl U.vm) qK, qD⟩, va_recv hK hP (ci := 3) (q0 := 4) rfl rfl, fun U hU hW => ⟨rfl, by rw [hU], by rw [hU]; exact hPc, va_K.moved hW.alike hK, hDc.weaken (fun _ _ _ _ => trivial)⟩⟩ rfl rfl hl.1 rfl (lv_room (Nat.le_of_ble_eq_true rfl)) dX10_relationOf_59 ⟨Nat.le_of_ble_eq_true rfl, Nat.le_of_ble_eq_true rfl⟩) hS (fun q _ h => hFc q h) hFc (fun r_12 u t H1 locs ht hvm hw hB hz1 hk1 hS => ?_)
        have hP1 : va_P (dC, dI) vwCl [] H1 := fun k q h => by simp at h
        have hD1 : va_D (va_A [(xHan, .inr (3, [.int 0, .int 3, .int 1, .ref hH, .ref hR, .ref hT, .ref hM])), (hM, .inl (cJ, 6, (.inr (.inl (vp_updL (fun _ => 0) (0 : Int32).toNatClampNeg 1)))))] H.size) [] := ⟨fun i j p q h => by simp at h, fun k q h => by simp at h⟩
        obtain ⟨hP, hD⟩ := va_join (wr := [(x0, .inr (10, [.ref xTape, .ref xReader, .ref xBag, .ref xBld, .ref xAng, .ref xSum, .ref xPik, .int 0, .ref xHan, .ref xIns, .ref xShr, .ref xSta, .ref xTur])), (xSum, .inr (8, [.ref sM, .ref sP, .ref sA, .int 0])), (hH, .inl (cI, 7, (.inl (upd (upd (upd (fun _ => 0) (0 : Int32).toNatClampNeg 0) (0 : Int32).toNatClampNeg 2) (0 : Int32).toNatClampNeg 3)))), (hT, .inl (cJ, 7, (.inr (.inl (vp_updL (vp_updL (vp_updL (fun _ => 0) (0 : Int32).toNatClampNeg 1) (0 : Int32).toNatClampNeg 1) (0 : Int32).toNatClampNeg 1)))))]) (w1 := []) hP hD [4, 5] [0, 1, 2, 3] rfl rfl (by decide) (by decide) hk1 hFc hP1 hD1
        generalize H1 = H at hP hS ⊢
        have hP : va_P (dC, dI) vwCl [(x0, .inr (10, [.ref xTape, .ref xReader, .ref xBag, .ref xBld, .ref xAng, .ref xSum, .ref xPik, .int 0, .ref xHan, .ref xIns, .ref xShr, .ref xSta, .ref xTur])), (xSum, .inr (8, [.ref sM, .ref sP, .ref sA, .int 0])), (hH, .inl (cI, 7, (.inl (upd (upd (upd (fun _ => 0) (0 : Int32).toNatClampNeg 0) (0 : Int32).toNatClampNeg 2) (0 : Int32).toNatClampNeg 3)))), (hT, .inl (cJ, 7, (.inr (.inl (vp_updL (vp_updL (vp_updL (fun _ => 0) (0 : Int32).toNatClampNeg 1) (0 : Int32).toNatClampNeg 1) (0 : Int32).toNatClampNeg 1)))))] H := hP
        have hD : va_D A [(x0, .inr (10, [.ref xTape, .ref xReader, .ref xBag, .ref xBld, .ref xAng, .ref xSum, .ref xPik, .int 0, .ref xHan, .ref xIns, .ref xShr, .ref xSta, .ref xTur])), (xSum, .inr (8, [.ref sM, .ref sP, .ref sA, .int 0])), (hH, .inl (cI, 7, (.inl (upd (upd (upd (fun _ => 0) (0 : Int32).toNatClampNeg 0) (0 : Int32).toNatClampNeg 2) (0 : Int32).toNatClampNeg 3)))), (hT, .inl (cJ, 7, (.inr (.inl (vp_updL (vp_updL (vp_updL (fun _ => 0) (0 : Int32).toNatClampNeg 1) (0 : Int32).toNatClampNeg 1) (0 : Int32).toNatClampNeg 1)))))] := hD
        have hr_12 := hw
        obtain rfl : r_12 = 1 := hr_12
        refine W.widen (k := 0) (n := 0) (Nat.le_of_ble_eq_true rfl) (Nat.le_of_ble_eq_true rfl) ?_
        exact W.iret (v := 1) hx hb hr (fun t ht hW => ⟨⟨1, (), rfl, (by decide), trivial⟩, hS.F ht⟩) hS.2.2 dX10_relationOf_62
      · refine lv_iload_n hx hb dX10_relationOf_35 rfl (lv_at hl 1 rfl) ?_
        refine lv_iload_n hx hb dX10_relationOf_36 rfl (lv_at hl 2 rfl) ?_
        refine lv_ishr hx hb dX10_relationOf_37 ?_
        refine lv_topi (fun x_13 ex_13 => ?_)
        obtain rfl : x_13 = 6 := ex_13.trans (by first | rfl | decide)
        refine lv_iconst (v := 1) hx hb dX10_relationOf_38 (by decide) ?_
        refine lv_iand hx hb dX10_relationOf_39 ?_
        refine lv_topi (fun x_14 ex_14 => ?_)
        obtain rfl : x_14 = 0 := ex_14.trans (by first | rfl | decide)
        refine lv_if_ne (tgt := 45) hx hb dX10_relationOf_40 (by decide) (fun c => absurd (by decide) c) (fun _ => ?_)
        refine lv_iconst (v := 0) hx hb dX10_relationOf_43 (by decide) ?_
        refine W.widen (k := 0) (n := 0) (Nat.le_of_ble_eq_true rfl) (Nat.le_of_ble_eq_true rfl) ?_
        exact W.iret (v := 0) hx hb hr (fun t ht hW => ⟨⟨0, (), rfl, (by decide), trivial⟩, hS.F ht⟩) hS.2.2 dX10_relationOf_44
      · refine lv_iload_n hx hb dX10_relationOf_35 rfl (lv_at hl 1 rfl) ?_
        refine lv_iload_n hx hb dX10_relationOf_36 rfl (lv_at hl 2 rfl) ?_
        refine lv_ishr hx hb dX10_relationOf_37 ?_
        refine lv_topi (fun x_15 ex_15 => ?_)
        obtain rfl : x_15 = 3 := ex_15.trans (by first | rfl | decide)
        refine lv_iconst (v := 1) hx hb dX10_relationOf_38 (by decide) ?_
        refine lv_iand hx hb dX10_relationOf_39 ?_
        refine lv_topi (fun x_16 ex_16 => ?_)
        obtain rfl : x_16 = 1 := ex_16.trans (by first | rfl | decide)
        refine lv_if_ne (tgt := 45) hx hb dX10_relationOf_40 (by decide) (fun _ => ?_) (fun c => absurd c (by decide))
        refine lv_aload_n hx hb dX10_relationOf_45 rfl (lv_at hl 0 rfl) ?_
        refine va_get (D := (dC, dI)) (ci := 10) (v := .ref xHan) (C := RX10) (T := TX10) (N := 13) hx hb hts hiX10 hown hK hP 0 rfl rfl 8 (by decide) (hts (.fieldLink RX10 61 "ScissorsTable" "hang" "LScissorsTable$Hang;") (by decide +kernel)) (fun _ h9 => h9) rfl dX10_relationOf_46 ?_
        refine lv_iload_n hx hb dX10_relationOf_49 rfl (lv_at hl 1 rfl) ?_
        refine lv_iconst (v := 1) hx hb dX10_relationOf_50 (by decide) ?_
        refine lv_iload_n hx hb dX10_relationOf_51 rfl (lv_at hl 2 rfl) ?_
        refine lv_ishl hx hb dX10_relationOf_52 ?_
        refine lv_topi (fun x_17 ex_17 => ?_)
        obtain rfl : x_17 = 4 := ex_17.trans (by first | rfl | decide)
        refine lv_iconst (v := 1) hx hb dX10_relationOf_53 (by decide) ?_
        refine lv_isub hx hb dX10_relationOf_54 ?_
        refine lv_topi (fun x_18 ex_18 => ?_)
        obtain rfl : x_18 = 3 := ex_18.trans (by first | rfl | decide)
        refine lv_iand hx hb dX10_relationOf_55 ?_
        refine lv_topi (fun x_19 ex_19 => ?_)
        obtain rfl : x_19 = 1 := ex_19.trans (by first | rfl | decide)
        have hPc := hP.sub (ws' := []) [] rfl
        have hDc := hD.sub (ws' := []) [] (by decide) rfl
        have hFc := va_free (wc := []) hD hS hA [] rfl
        refine va_calli (va_runS (As := [.int 1]) (rest := [.ref xHan]) ⟨hx, hb, hml, hown, hts⟩ (c_J6_bitCount_0f7a4_1 l dC dI cB cI cJ H.size ) (va_cwS 1 hts gX10_relationOf_J6_bitCount_0f7a4 rfl rfl rfl (by decide +kernel) ⟨Nat.le_of_ble_eq_true rfl, Nat.le_of_ble_eq_true rfl⟩) ⟨fun a U g mk q => by obtain ⟨q0, q1, qP, qK, qD⟩ := q; exact ⟨q0, q1, qP, va_K.moved (u := U) (U := U.calling g mk a) (Vm.Alike.refl U.vm) qK, qD⟩, fun U hU hW => ⟨rfl, by rw [hU], by rw [hU]; exact hPc, va_K.moved hW.alike hK, hDc.weaken (fun _ _ _ _ => trivial)⟩⟩ rfl rfl hl.1 rfl (lv_room (Nat.le_of_ble_eq_true rfl)) dX10_relationOf_56 ⟨Nat.le_of_ble_eq_true rfl, Nat.le_of_ble_eq_true rfl⟩) hS (fun q _ h => hFc q h) hFc (fun r_20 u t H1 locs ht hvm hw hB hz1 hk1 hS => ?_)
        have hP1 : va_P (dC, dI) vwCl [] H1 := fun k q h => by simp at h
        have hD1 : va_D (va_A [] H.size) [] := ⟨fun i j p q h => by simp at h, fun k q h => by simp at h⟩
        obtain ⟨hP, hD⟩ := va_join (wr := [(x0, .inr (10, [.ref xTape, .ref xReader, .ref xBag, .ref xBld, .ref xAng, .ref xSum, .ref xPik, .int 0, .ref xHan, .ref xIns, .ref xShr, .ref xSta, .ref xTur])), (xSum, .inr (8, [.ref sM, .ref sP, .ref sA, .int 0])), (hH, .inl (cI, 7, (.inl (upd (upd (upd (fun _ => 0) (0 : Int32).toNatClampNeg 0) (0 : Int32).toNatClampNeg 2) (0 : Int32).toNatClampNeg 3)))), (hT, .inl (cJ, 7, (.inr (.inl (vp_updL (vp_updL (vp_updL (fun _ => 0) (0 : Int32).toNatClampNeg 1) (0 : Int32).toNatClampNeg 1) (0 : Int32).toNatClampNeg 1))))), (xHan, .inr (3, [.int 0, .int 3, .int 1, .ref hH, .ref hR, .ref hT, .ref hM])), (hM, .inl (cJ, 6, (.inr (.inl (vp_updL (fun _ => 0) (0 : Int32).toNatClampNeg 1)))))]) (w1 := []) hP hD [] [0, 1, 2, 3, 4, 5] rfl rfl (by decide) (by decide) hk1 hFc hP1 hD1
        generalize H1 = H at hP hS ⊢
        have hP : va_P (dC, dI) vwCl [(x0, .inr (10, [.ref xTape, .ref xReader, .ref xBag, .ref xBld, .ref xAng, .ref xSum, .ref xPik, .int 0, .ref xHan, .ref xIns, .ref xShr, .ref xSta, .ref xTur])), (xSum, .inr (8, [.ref sM, .ref sP, .ref sA, .int 0])), (hH, .inl (cI, 7, (.inl (upd (upd (upd (fun _ => 0) (0 : Int32).toNatClampNeg 0) (0 : Int32).toNatClampNeg 2) (0 : Int32).toNatClampNeg 3)))), (hT, .inl (cJ, 7, (.inr (.inl (vp_updL (vp_updL (vp_updL (fun _ => 0) (0 : Int32).toNatClampNeg 1) (0 : Int32).toNatClampNeg 1) (0 : Int32).toNatClampNeg 1))))), (xHan, .inr (3, [.int 0, .int 3, .int 1, .ref hH, .ref hR, .ref hT, .ref hM])), (hM, .inl (cJ, 6, (.inr (.inl (vp_updL (fun _ => 0) (0 : Int32).toNatClampNeg 1)))))] H := hP
        have hD : va_D A [(x0, .inr (10, [.ref xTape, .ref xReader, .ref xBag, .ref xBld, .ref xAng, .ref xSum, .ref xPik, .int 0, .ref xHan, .ref xIns, .ref xShr, .ref xSta, .ref xTur])), (xSum, .inr (8, [.ref sM, .ref sP, .ref sA, .int 0])), (hH, .inl (cI, 7, (.inl (upd (upd (upd (fun _ => 0) (0 : Int32).toNatClampNeg 0) (0 : Int32).toNatClampNeg 2) (0 : Int32).toNatClampNeg 3)))), (hT, .inl (cJ, 7, (.inr (.inl (vp_updL (vp_updL (vp_updL (fun _ => 0) (0 : Int32).toNatClampNeg 1) (0 : Int32).toNatClampNeg 1) (0 : Int32).toNatClampNeg 1))))), (xHan, .inr (3, [.int 0, .int 3, .int 1, .ref hH, .ref hR, .ref hT, .ref hM])), (hM, .inl (cJ, 6, (.inr (.inl (vp_updL (fun _ => 0) (0 : Int32).toNatClampNeg 1)))))] := hD
        have hr_20 := hw
        obtain rfl : r_20 = 1 := hr_20
        have hPc := hP.sub (ws' := [(xHan, .inr (3, [.int 0, .int 3, .int 1, .ref hH, .ref hR, .ref hT, .ref hM])), (hM, .inl (cJ, 6, (.inr (.inl (vp_updL (fun _ => 0) (0 : Int32).toNatClampNeg 1)))))]) [4, 5] rfl
        have hDc := hD.sub (ws' := [(xHan, .inr (3, [.int 0, .int 3, .int 1, .ref hH, .ref hR, .ref hT, .ref hM])), (hM, .inl (cJ, 6, (.inr (.inl (vp_updL (fun _ => 0) (0 : Int32).toNatClampNeg 1)))))]) [4, 5] (by decide) rfl
        have hFc := va_free (wc := [(xHan, .inr (3, [.int 0, .int 3, .int 1, .ref hH, .ref hR, .ref hT, .ref hM])), (hM, .inl (cJ, 6, (.inr (.inl (vp_updL (fun _ => 0) (0 : Int32).toNatClampNeg 1)))))]) hD hS hA [4, 5] rfl
        refine va_calli (va_runV (As := [.int 1]) (rest := []) ⟨hx, hb, hml, hown, hts⟩ (c_X3_timesOf_t3_1 l dC dI cB cI cJ H.size xHan hH hR hT hM) (cwV 1 hts gX10_relationOf_X3_timesOf rfl rfl rfl (by decide +kernel) ⟨Nat.le_of_ble_eq_true rfl, Nat.le_of_ble_eq_true rfl⟩) ⟨fun a U g mk q => by obtain ⟨q0, q1, qP, qK, qD⟩ := q; exact ⟨q0, q1, qP, va_K.moved (u := U) (U := U.calling g mk a) (Vm.Alike.refl U.vm) qK, qD⟩, va_recv hK hP (ci := 3) (q0 := 4) rfl rfl, fun U hU hW => ⟨rfl, by rw [hU], by rw [hU]; exact hPc, va_K.moved hW.alike hK, hDc.weaken (fun _ _ _ _ => trivial)⟩⟩ rfl rfl hl.1 rfl (lv_room (Nat.le_of_ble_eq_true rfl)) dX10_relationOf_59 ⟨Nat.le_of_ble_eq_true rfl, Nat.le_of_ble_eq_true rfl⟩) hS (fun q _ h => hFc q h) hFc (fun r_21 u t H1 locs ht hvm hw hB hz1 hk1 hS => ?_)
        have hP1 : va_P (dC, dI) vwCl [] H1 := fun k q h => by simp at h
        have hD1 : va_D (va_A [(xHan, .inr (3, [.int 0, .int 3, .int 1, .ref hH, .ref hR, .ref hT, .ref hM])), (hM, .inl (cJ, 6, (.inr (.inl (vp_updL (fun _ => 0) (0 : Int32).toNatClampNeg 1)))))] H.size) [] := ⟨fun i j p q h => by simp at h, fun k q h => by simp at h⟩
        obtain ⟨hP, hD⟩ := va_join (wr := [(x0, .inr (10, [.ref xTape, .ref xReader, .ref xBag, .ref xBld, .ref xAng, .ref xSum, .ref xPik, .int 0, .ref xHan, .ref xIns, .ref xShr, .ref xSta, .ref xTur])), (xSum, .inr (8, [.ref sM, .ref sP, .ref sA, .int 0])), (hH, .inl (cI, 7, (.inl (upd (upd (upd (fun _ => 0) (0 : Int32).toNatClampNeg 0) (0 : Int32).toNatClampNeg 2) (0 : Int32).toNatClampNeg 3)))), (hT, .inl (cJ, 7, (.inr (.inl (vp_updL (vp_updL (vp_updL (fun _ => 0) (0 : Int32).toNatClampNeg 1) (0 : Int32).toNatClampNeg 1) (0 : Int32).toNatClampNeg 1)))))]) (w1 := []) hP hD [4, 5] [0, 1, 2, 3] rfl rfl (by decide) (by decide) hk1 hFc hP1 hD1
        generalize H1 = H at hP hS ⊢
        have hP : va_P (dC, dI) vwCl [(x0, .inr (10, [.ref xTape, .ref xReader, .ref xBag, .ref xBld, .ref xAng, .ref xSum, .ref xPik, .int 0, .ref xHan, .ref xIns, .ref xShr, .ref xSta, .ref xTur])), (xSum, .inr (8, [.ref sM, .ref sP, .ref sA, .int 0])), (hH, .inl (cI, 7, (.inl (upd (upd (upd (fun _ => 0) (0 : Int32).toNatClampNeg 0) (0 : Int32).toNatClampNeg 2) (0 : Int32).toNatClampNeg 3)))), (hT, .inl (cJ, 7, (.inr (.inl (vp_updL (vp_updL (vp_updL (fun _ => 0) (0 : Int32).toNatClampNeg 1) (0 : Int32).toNatClampNeg 1) (0 : Int32).toNatClampNeg 1)))))] H := hP
        have hD : va_D A [(x0, .inr (10, [.ref xTape, .ref xReader, .ref xBag, .ref xBld, .ref xAng, .ref xSum, .ref xPik, .int 0, .ref xHan, .ref xIns, .ref xShr, .ref xSta, .ref xTur])), (xSum, .inr (8, [.ref sM, .ref sP, .ref sA, .int 0])), (hH, .inl (cI, 7, (.inl (upd (upd (upd (fun _ => 0) (0 : Int32).toNatClampNeg 0) (0 : Int32).toNatClampNeg 2) (0 : Int32).toNatClampNeg 3)))), (hT, .inl (cJ, 7, (.inr (.inl (vp_updL (vp_updL (vp_updL (fun _ => 0) (0 : Int32).toNatClampNeg 1) (0 : Int32).toNatClampNeg 1) (0 : Int32).toNatClampNeg 1)))))] := hD
        have hr_21 := hw
        obtain rfl : r_21 = 0 := hr_21
        refine W.widen (k := 0) (n := 0) (Nat.le_of_ble_eq_true rfl) (Nat.le_of_ble_eq_true rfl) ?_
        exact W.iret (v := 0) hx hb hr (fun t ht hW => ⟨⟨0, (), rfl, (by decide), trivial⟩, hS.F ht⟩) hS.2.2 dX10_relationOf_62
      · refine lv_iload_n hx hb dX10_relationOf_35 rfl (lv_at hl 1 rfl) ?_
        refine lv_iload_n hx hb dX10_relationOf_36 rfl (lv_at hl 2 rfl) ?_
        refine lv_ishr hx hb dX10_relationOf_37 ?_
        refine lv_topi (fun x_22 ex_22 => ?_)
        obtain rfl : x_22 = 1 := ex_22.trans (by first | rfl | decide)
        refine lv_iconst (v := 1) hx hb dX10_relationOf_38 (by decide) ?_
        refine lv_iand hx hb dX10_relationOf_39 ?_
        refine lv_topi (fun x_23 ex_23 => ?_)
        obtain rfl : x_23 = 1 := ex_23.trans (by first | rfl | decide)
        refine lv_if_ne (tgt := 45) hx hb dX10_relationOf_40 (by decide) (fun _ => ?_) (fun c => absurd c (by decide))
        refine lv_aload_n hx hb dX10_relationOf_45 rfl (lv_at hl 0 rfl) ?_
        refine va_get (D := (dC, dI)) (ci := 10) (v := .ref xHan) (C := RX10) (T := TX10) (N := 13) hx hb hts hiX10 hown hK hP 0 rfl rfl 8 (by decide) (hts (.fieldLink RX10 61 "ScissorsTable" "hang" "LScissorsTable$Hang;") (by decide +kernel)) (fun _ h9 => h9) rfl dX10_relationOf_46 ?_
        refine lv_iload_n hx hb dX10_relationOf_49 rfl (lv_at hl 1 rfl) ?_
        refine lv_iconst (v := 1) hx hb dX10_relationOf_50 (by decide) ?_
        refine lv_iload_n hx hb dX10_relationOf_51 rfl (lv_at hl 2 rfl) ?_
        refine lv_ishl hx hb dX10_relationOf_52 ?_
        refine lv_topi (fun x_24 ex_24 => ?_)
        obtain rfl : x_24 = 8 := ex_24.trans (by first | rfl | decide)
        refine lv_iconst (v := 1) hx hb dX10_relationOf_53 (by decide) ?_
        refine lv_isub hx hb dX10_relationOf_54 ?_
        refine lv_topi (fun x_25 ex_25 => ?_)
        obtain rfl : x_25 = 7 := ex_25.trans (by first | rfl | decide)
        refine lv_iand hx hb dX10_relationOf_55 ?_
        refine lv_topi (fun x_26 ex_26 => ?_)
        obtain rfl : x_26 = 5 := ex_26.trans (by first | rfl | decide)
        have hPc := hP.sub (ws' := []) [] rfl
        have hDc := hD.sub (ws' := []) [] (by decide) rfl
        have hFc := va_free (wc := []) hD hS hA [] rfl
        refine va_calli (va_runS (As := [.int 5]) (rest := [.ref xHan]) ⟨hx, hb, hml, hown, hts⟩ (c_J6_bitCount_0f7a4_5 l dC dI cB cI cJ H.size ) (va_cwS 1 hts gX10_relationOf_J6_bitCount_0f7a4 rfl rfl rfl (by decide +kernel) ⟨Nat.le_of_ble_eq_true rfl, Nat.le_of_ble_eq_true rfl⟩) ⟨fun a U g mk q => by obtain ⟨q0, q1, qP, qK, qD⟩ := q; exact ⟨q0, q1, qP, va_K.moved (u := U) (U := U.calling g mk a) (Vm.Alike.refl U.vm) qK, qD⟩, fun U hU hW => ⟨rfl, by rw [hU], by rw [hU]; exact hPc, va_K.moved hW.alike hK, hDc.weaken (fun _ _ _ _ => trivial)⟩⟩ rfl rfl hl.1 rfl (lv_room (Nat.le_of_ble_eq_true rfl)) dX10_relationOf_56 ⟨Nat.le_of_ble_eq_true rfl, Nat.le_of_ble_eq_true rfl⟩) hS (fun q _ h => hFc q h) hFc (fun r_27 u t H1 locs ht hvm hw hB hz1 hk1 hS => ?_)
        have hP1 : va_P (dC, dI) vwCl [] H1 := fun k q h => by simp at h
        have hD1 : va_D (va_A [] H.size) [] := ⟨fun i j p q h => by simp at h, fun k q h => by simp at h⟩
        obtain ⟨hP, hD⟩ := va_join (wr := [(x0, .inr (10, [.ref xTape, .ref xReader, .ref xBag, .ref xBld, .ref xAng, .ref xSum, .ref xPik, .int 0, .ref xHan, .ref xIns, .ref xShr, .ref xSta, .ref xTur])), (xSum, .inr (8, [.ref sM, .ref sP, .ref sA, .int 0])), (hH, .inl (cI, 7, (.inl (upd (upd (upd (fun _ => 0) (0 : Int32).toNatClampNeg 0) (0 : Int32).toNatClampNeg 2) (0 : Int32).toNatClampNeg 3)))), (hT, .inl (cJ, 7, (.inr (.inl (vp_updL (vp_updL (vp_updL (fun _ => 0) (0 : Int32).toNatClampNeg 1) (0 : Int32).toNatClampNeg 1) (0 : Int32).toNatClampNeg 1))))), (xHan, .inr (3, [.int 0, .int 3, .int 1, .ref hH, .ref hR, .ref hT, .ref hM])), (hM, .inl (cJ, 6, (.inr (.inl (vp_updL (fun _ => 0) (0 : Int32).toNatClampNeg 1)))))]) (w1 := []) hP hD [] [0, 1, 2, 3, 4, 5] rfl rfl (by decide) (by decide) hk1 hFc hP1 hD1
        generalize H1 = H at hP hS ⊢
        have hP : va_P (dC, dI) vwCl [(x0, .inr (10, [.ref xTape, .ref xReader, .ref xBag, .ref xBld, .ref xAng, .ref xSum, .ref xPik, .int 0, .ref xHan, .ref xIns, .ref xShr, .ref xSta, .ref xTur])), (xSum, .inr (8, [.ref sM, .ref sP, .ref sA, .int 0])), (hH, .inl (cI, 7, (.inl (upd (upd (upd (fun _ => 0) (0 : Int32).toNatClampNeg 0) (0 : Int32).toNatClampNeg 2) (0 : Int32).toNatClampNeg 3)))), (hT, .inl (cJ, 7, (.inr (.inl (vp_updL (vp_updL (vp_updL (fun _ => 0) (0 : Int32).toNatClampNeg 1) (0 : Int32).toNatClampNeg 1) (0 : Int32).toNatClampNeg 1))))), (xHan, .inr (3, [.int 0, .int 3, .int 1, .ref hH, .ref hR, .ref hT, .ref hM])), (hM, .inl (cJ, 6, (.inr (.inl (vp_updL (fun _ => 0) (0 : Int32).toNatClampNeg 1)))))] H := hP
        have hD : va_D A [(x0, .inr (10, [.ref xTape, .ref xReader, .ref xBag, .ref xBld, .ref xAng, .ref xSum, .ref xPik, .int 0, .ref xHan, .ref xIns, .ref xShr, .ref xSta, .ref xTur])), (xSum, .inr (8, [.ref sM, .ref sP, .ref sA, .int 0])), (hH, .inl (cI, 7, (.inl (upd (upd (upd (fun _ => 0) (0 : Int32).toNatClampNeg 0) (0 : Int32).toNatClampNeg 2) (0 : Int32).toNatClampNeg 3)))), (hT, .inl (cJ, 7, (.inr (.inl (vp_updL (vp_updL (vp_updL (fun _ => 0) (0 : Int32).toNatClampNeg 1) (0 : Int32).toNatClampNeg 1) (0 : Int32).toNatClampNeg 1))))), (xHan, .inr (3, [.int 0, .int 3, .int 1, .ref hH, .ref hR, .ref hT, .ref hM])), (hM, .inl (cJ, 6, (.inr (.inl (vp_updL (fun _ => 0) (0 : Int32).toNatClampNeg 1)))))] := hD
        have hr_27 := hw
        obtain rfl : r_27 = 2 := hr_27
        have hPc := hP.sub (ws' := [(xHan, .inr (3, [.int 0, .int 3, .int 1, .ref hH, .ref hR, .ref hT, .ref hM])), (hM, .inl (cJ, 6, (.inr (.inl (vp_updL (fun _ => 0) (0 : Int32).toNatClampNeg 1)))))]) [4, 5] rfl
        have hDc := hD.sub (ws' := [(xHan, .inr (3, [.int 0, .int 3, .int 1, .ref hH, .ref hR, .ref hT, .ref hM])), (hM, .inl (cJ, 6, (.inr (.inl (vp_updL (fun _ => 0) (0 : Int32).toNatClampNeg 1)))))]) [4, 5] (by decide) rfl
        have hFc := va_free (wc := [(xHan, .inr (3, [.int 0, .int 3, .int 1, .ref hH, .ref hR, .ref hT, .ref hM])), (hM, .inl (cJ, 6, (.inr (.inl (vp_updL (fun _ => 0) (0 : Int32).toNatClampNeg 1)))))]) hD hS hA [4, 5] rfl
        refine va_calli (va_runV (As := [.int 2]) (rest := []) ⟨hx, hb, hml, hown, hts⟩ (c_X3_timesOf_t3_2 l dC dI cB cI cJ H.size xHan hH hR hT hM) (cwV 1 hts gX10_relationOf_X3_timesOf rfl rfl rfl (by decide +kernel) ⟨Nat.le_of_ble_eq_true rfl, Nat.le_of_ble_eq_true rfl⟩) ⟨fun a U g mk q => by obtain ⟨q0, q1, qP, qK, qD⟩ := q; exact ⟨q0, q1, qP, va_K.moved (u := U) (U := U.calling g mk a) (Vm.Alike.refl U.vm) qK, qD⟩, va_recv hK hP (ci := 3) (q0 := 4) rfl rfl, fun U hU hW => ⟨rfl, by rw [hU], by rw [hU]; exact hPc, va_K.moved hW.alike hK, hDc.weaken (fun _ _ _ _ => trivial)⟩⟩ rfl rfl hl.1 rfl (lv_room (Nat.le_of_ble_eq_true rfl)) dX10_relationOf_59 ⟨Nat.le_of_ble_eq_true rfl, Nat.le_of_ble_eq_true rfl⟩) hS (fun q _ h => hFc q h) hFc (fun r_28 u t H1 locs ht hvm hw hB hz1 hk1 hS => ?_)
        have hP1 : va_P (dC, dI) vwCl [] H1 := fun k q h => by simp at h
        have hD1 : va_D (va_A [(xHan, .inr (3, [.int 0, .int 3, .int 1, .ref hH, .ref hR, .ref hT, .ref hM])), (hM, .inl (cJ, 6, (.inr (.inl (vp_updL (fun _ => 0) (0 : Int32).toNatClampNeg 1)))))] H.size) [] := ⟨fun i j p q h => by simp at h, fun k q h => by simp at h⟩
        obtain ⟨hP, hD⟩ := va_join (wr := [(x0, .inr (10, [.ref xTape, .ref xReader, .ref xBag, .ref xBld, .ref xAng, .ref xSum, .ref xPik, .int 0, .ref xHan, .ref xIns, .ref xShr, .ref xSta, .ref xTur])), (xSum, .inr (8, [.ref sM, .ref sP, .ref sA, .int 0])), (hH, .inl (cI, 7, (.inl (upd (upd (upd (fun _ => 0) (0 : Int32).toNatClampNeg 0) (0 : Int32).toNatClampNeg 2) (0 : Int32).toNatClampNeg 3)))), (hT, .inl (cJ, 7, (.inr (.inl (vp_updL (vp_updL (vp_updL (fun _ => 0) (0 : Int32).toNatClampNeg 1) (0 : Int32).toNatClampNeg 1) (0 : Int32).toNatClampNeg 1)))))]) (w1 := []) hP hD [4, 5] [0, 1, 2, 3] rfl rfl (by decide) (by decide) hk1 hFc hP1 hD1
        generalize H1 = H at hP hS ⊢
        have hP : va_P (dC, dI) vwCl [(x0, .inr (10, [.ref xTape, .ref xReader, .ref xBag, .ref xBld, .ref xAng, .ref xSum, .ref xPik, .int 0, .ref xHan, .ref xIns, .ref xShr, .ref xSta, .ref xTur])), (xSum, .inr (8, [.ref sM, .ref sP, .ref sA, .int 0])), (hH, .inl (cI, 7, (.inl (upd (upd (upd (fun _ => 0) (0 : Int32).toNatClampNeg 0) (0 : Int32).toNatClampNeg 2) (0 : Int32).toNatClampNeg 3)))), (hT, .inl (cJ, 7, (.inr (.inl (vp_updL (vp_updL (vp_updL (fun _ => 0) (0 : Int32).toNatClampNeg 1) (0 : Int32).toNatClampNeg 1) (0 : Int32).toNatClampNeg 1)))))] H := hP
        have hD : va_D A [(x0, .inr (10, [.ref xTape, .ref xReader, .ref xBag, .ref xBld, .ref xAng, .ref xSum, .ref xPik, .int 0, .ref xHan, .ref xIns, .ref xShr, .ref xSta, .ref xTur])), (xSum, .inr (8, [.ref sM, .ref sP, .ref sA, .int 0])), (hH, .inl (cI, 7, (.inl (upd (upd (upd (fun _ => 0) (0 : Int32).toNatClampNeg 0) (0 : Int32).toNatClampNeg 2) (0 : Int32).toNatClampNeg 3)))), (hT, .inl (cJ, 7, (.inr (.inl (vp_updL (vp_updL (vp_updL (fun _ => 0) (0 : Int32).toNatClampNeg 1) (0 : Int32).toNatClampNeg 1) (0 : Int32).toNatClampNeg 1)))))] := hD
        have hr_28 := hw
        obtain rfl : r_28 = 0 := hr_28
        refine W.widen (k := 0) (n := 0) (Nat.le_of_ble_eq_true rfl) (Nat.le_of_ble_eq_true rfl) ?_
        exact W.iret (v := 0) hx hb hr (fun t ht hW => ⟨⟨0, (), rfl, (by decide), trivial⟩, hS.F ht⟩) hS.2.2 dX10_relationOf_62
set_option maxHeartbeats 4000000 in
set_option maxRecDepth 100000 in
theorem c_X10_relationOf_14 (l : Launch) (dC : Nat → ClassId) (dI : Nat → Nat → Nat) (cB cI cJ : ClassId) (sz : Nat) (x0 xTape xReader xBag xBld xAng xSum xPik xHan xIns xShr xSta xTur sM sP sA hH hR hT hM : Nat) (p1 : Int32) : Met l yX10_relationOf wsX10_relationOf ({ frames := 12, cells := 0, slots := 0, locals := 400 }) (va_Pc [.ref x0, .int 14, .int p1] (fun U => U.heap.size = sz ∧ va_P (dC, dI) vwCl [(x0, .inr (10, [.ref xTape, .ref xReader, .ref xBag, .ref xBld, .ref xAng, .ref xSum, .ref xPik, .int 0, .ref xHan, .ref xIns, .ref xShr, .ref xSta, .ref xTur])), (xSum, .inr (8, [.ref sM, .ref sP, .ref sA, .int 0])), (xHan, .inr (3, [.int 0, .int 0, .int 0, .ref hH, .ref hR, .ref hT, .ref hM])), (hH, .inl (cI, 7, (.inl (fun _ => 0)))), (hT, .inl (cJ, 7, (.inr (.inl (fun _ => 0))))), (hM, .inl (cJ, 6, (.inr (.inl (fun _ => 0)))))] U.heap ∧ va_K (dC, dI) vwCl [(cB, .byte), (cI, .int), (cJ, .long)] U ∧ va_D (fun _ => True) [(x0, .inr (10, [.ref xTape, .ref xReader, .ref xBag, .ref xBld, .ref xAng, .ref xSum, .ref xPik, .int 0, .ref xHan, .ref xIns, .ref xShr, .ref xSta, .ref xTur])), (xSum, .inr (8, [.ref sM, .ref sP, .ref sA, .int 0])), (xHan, .inr (3, [.int 0, .int 0, .int 0, .ref hH, .ref hR, .ref hT, .ref hM])), (hH, .inl (cI, 7, (.inl (fun _ => 0)))), (hT, .inl (cJ, 7, (.inr (.inl (fun _ => 0))))), (hM, .inl (cJ, 6, (.inr (.inl (fun _ => 0)))))] ∧ va_Nw (.methodLinkNest RX3 62 yX10_gcd "ScissorsTable") U)) (va_Qi (fun (r : Int32) (_ : Unit) => r = sp_rel 14 p1) (fun _ _ => True) (va_A [(x0, .inr (10, [.ref xTape, .ref xReader, .ref xBag, .ref xBld, .ref xAng, .ref xSum, .ref xPik, .int 0, .ref xHan, .ref xIns, .ref xShr, .ref xSta, .ref xTur])), (xSum, .inr (8, [.ref sM, .ref sP, .ref sA, .int 0])), (xHan, .inr (3, [.int 0, .int 0, .int 0, .ref hH, .ref hR, .ref hT, .ref hM])), (hH, .inl (cI, 7, (.inl (fun _ => 0)))), (hT, .inl (cJ, 7, (.inr (.inl (fun _ => 0))))), (hM, .inl (cJ, 6, (.inr (.inl (fun _ => 0)))))] sz)) 0 0 (va_A [(x0, .inr (10, [.ref xTape, .ref xReader, .ref xBag, .ref xBld, .ref xAng, .ref xSum, .ref xPik, .int 0, .ref xHan, .ref xIns, .ref xShr, .ref xSta, .ref xTur])), (xSum, .inr (8, [.ref sM, .ref sP, .ref sA, .int 0])), (xHan, .inr (3, [.int 0, .int 0, .int 0, .ref hH, .ref hR, .ref hT, .ref hM])), (hH, .inl (cI, 7, (.inl (fun _ => 0)))), (hT, .inl (cJ, 7, (.inr (.inl (fun _ => 0))))), (hM, .inl (cJ, 6, (.inr (.inl (fun _ => 0)))))] sz) := by
  refine Met.ofW (cc := cX10_relationOf) (maxL := 3) (ret := (some .int)) (by decide) rfl ?_
  intro p e s m args below meth c s₁ B hml hv
  obtain ⟨rfl, hsz, hP, hK, hD0, hN0⟩ := hv
  have hx := B.exec
  have hb := B.bytes
  have hr := B.returns
  have hts := atoms_spec (ws := wsX10_relationOf) B.pre
  have hown : s.vm.findClass RX10 = some m.cls := findClass_of_methodNamed B.named
  have hlocks := B.notSynchronized
  have hiX10 : ∀ w ∈ u_ws RX10 TX10 13, w ∈ wsX10_relationOf := by decide +kernel
  subst hsz
  have hD := hD0.self (sz := s.heap.size)
  generalize hAe : va_A [(x0, .inr (10, [.ref xTape, .ref xReader, .ref xBag, .ref xBld, .ref xAng, .ref xSum, .ref xPik, .int 0, .ref xHan, .ref xIns, .ref xShr, .ref xSta, .ref xTur])), (xSum, .inr (8, [.ref sM, .ref sP, .ref sA, .int 0])), (xHan, .inr (3, [.int 0, .int 0, .int 0, .ref hH, .ref hR, .ref hT, .ref hM])), (hH, .inl (cI, 7, (.inl (fun _ => 0)))), (hT, .inl (cJ, 7, (.inr (.inl (fun _ => 0))))), (hM, .inl (cJ, 6, (.inr (.inl (fun _ => 0)))))] s.heap.size = A at hD ⊢
  have hA : ∀ q : Nat, s.heap.size ≤ q → A q := fun q h => by rw [← hAe]; exact Or.inr h
  have hS : va_S A s.heap s.heap [] := va_S.rf
  have hP : va_P (dC, dI) vwCl [(x0, .inr (10, [.ref xTape, .ref xReader, .ref xBag, .ref xBld, .ref xAng, .ref xSum, .ref xPik, .int 0, .ref xHan, .ref xIns, .ref xShr, .ref xSta, .ref xTur])), (xSum, .inr (8, [.ref sM, .ref sP, .ref sA, .int 0])), (xHan, .inr (3, [.int 0, .int 0, .int 0, .ref hH, .ref hR, .ref hT, .ref hM])), (hH, .inl (cI, 7, (.inl (fun _ => 0)))), (hT, .inl (cJ, 7, (.inr (.inl (fun _ => 0))))), (hM, .inl (cJ, 6, (.inr (.inl (fun _ => 0)))))] s.heap := hP
  have hl := lv_entry ([.ref x0, .int 14, .int p1]) (n := 3) (Nat.le_of_ble_eq_true rfl)
  rw [lg_entry_eq]
  generalize (lg_sl ([.ref x0, .int 14, .int p1]) ++ List.replicate (3 - (lg_sl ([.ref x0, .int 14, .int p1])).length) Slot.unset).toArray = ls at hl ⊢
  have hl : lv_has ls 3 [(0, .ref x0), (1, .int 14), (2, .int p1)] := hl
  refine lv_iload_n hx hb dX10_relationOf_0 rfl (lv_at hl 1 rfl) ?_
  have hPc := hP.sub (ws' := []) [] rfl
  have hDc := hD.sub (ws' := []) [] (by decide) rfl
  have hFc := va_free (wc := []) hD hS hA [] rfl
  refine va_calli (va_runS (As := [.int 14]) (rest := []) ⟨hx, hb, hml, hown, hts⟩ (c_X10_isSetOfSolids l dC dI cB cI cJ s.heap.size 14) (va_cwS 1 hts gX10_relationOf_X10_isSetOfSolids rfl rfl rfl (by decide +kernel) ⟨Nat.le_of_ble_eq_true rfl, Nat.le_of_ble_eq_true rfl⟩) ⟨fun a U g mk q => by obtain ⟨q0, q1, qP, qK, qD⟩ := q; exact ⟨q0, q1, qP, va_K.moved (u := U) (U := U.calling g mk a) (Vm.Alike.refl U.vm) qK, qD⟩, fun U hU hW => ⟨rfl, by rw [hU], by rw [hU]; exact hPc, va_K.moved hW.alike hK, hDc.weaken (fun _ _ _ _ => trivial)⟩⟩ rfl rfl hl.1 rfl (lv_room (Nat.le_of_ble_eq_true rfl)) dX10_relationOf_1 ⟨Nat.le_of_ble_eq_true rfl, Nat.le_of_ble_eq_true rfl⟩) hS (fun q _ h => hFc q h) hFc (fun r_1 u t H1 locs ht hvm hw hB hz1 hk1 hS => ?_)
  have hP1 : va_P (dC, dI) vwCl [] H1 := fun k q h => by simp at h
  have hD1 : va_D (va_A [] s.heap.size) [] := ⟨fun i j p q h => by simp at h, fun k q h => by simp at h⟩
  obtain ⟨hP, hD⟩ := va_join (wr := [(x0, .inr (10, [.ref xTape, .ref xReader, .ref xBag, .ref xBld, .ref xAng, .ref xSum, .ref xPik, .int 0, .ref xHan, .ref xIns, .ref xShr, .ref xSta, .ref xTur])), (xSum, .inr (8, [.ref sM, .ref sP, .ref sA, .int 0])), (xHan, .inr (3, [.int 0, .int 0, .int 0, .ref hH, .ref hR, .ref hT, .ref hM])), (hH, .inl (cI, 7, (.inl (fun _ => 0)))), (hT, .inl (cJ, 7, (.inr (.inl (fun _ => 0))))), (hM, .inl (cJ, 6, (.inr (.inl (fun _ => 0)))))]) (w1 := []) hP hD [] [0, 1, 2, 3, 4, 5] rfl rfl (by decide) (by decide) hk1 hFc hP1 hD1
  generalize H1 = H at hP hS ⊢
  have hP : va_P (dC, dI) vwCl [(x0, .inr (10, [.ref xTape, .ref xReader, .ref xBag, .ref xBld, .ref xAng, .ref xSum, .ref xPik, .int 0, .ref xHan, .ref xIns, .ref xShr, .ref xSta, .ref xTur])), (xSum, .inr (8, [.ref sM, .ref sP, .ref sA, .int 0])), (xHan, .inr (3, [.int 0, .int 0, .int 0, .ref hH, .ref hR, .ref hT, .ref hM])), (hH, .inl (cI, 7, (.inl (fun _ => 0)))), (hT, .inl (cJ, 7, (.inr (.inl (fun _ => 0))))), (hM, .inl (cJ, 6, (.inr (.inl (fun _ => 0)))))] H := hP
  have hD : va_D A [(x0, .inr (10, [.ref xTape, .ref xReader, .ref xBag, .ref xBld, .ref xAng, .ref xSum, .ref xPik, .int 0, .ref xHan, .ref xIns, .ref xShr, .ref xSta, .ref xTur])), (xSum, .inr (8, [.ref sM, .ref sP, .ref sA, .int 0])), (xHan, .inr (3, [.int 0, .int 0, .int 0, .ref hH, .ref hR, .ref hT, .ref hM])), (hH, .inl (cI, 7, (.inl (fun _ => 0)))), (hT, .inl (cJ, 7, (.inr (.inl (fun _ => 0))))), (hM, .inl (cJ, 6, (.inr (.inl (fun _ => 0)))))] := hD
  rcases hw with ⟨rfl, k_2⟩ | ⟨rfl, k_2⟩
  · refine lv_if_eq (tgt := 14) hx hb dX10_relationOf_4 (by decide) (fun _ => ?_) (fun c => absurd (by decide) c)
    refine lv_ldc (v := (-1000000)) hx hb hown (hts (.constant RX10 140 (-1000000)) (by decide +kernel)) dX10_relationOf_14 ?_
    refine W.widen (k := 0) (n := 0) (Nat.le_of_ble_eq_true rfl) (Nat.le_of_ble_eq_true rfl) ?_
    exact W.iret (v := (-1000000)) hx hb hr (fun t ht hW => ⟨⟨(-1000000), (), rfl, (absurd (by decide) k_2), trivial⟩, hS.F ht⟩) hS.2.2 dX10_relationOf_16
  · refine lv_if_eq (tgt := 14) hx hb dX10_relationOf_4 (by decide) (fun c => absurd c (by decide)) (fun _ => ?_)
    refine lv_iload_n hx hb dX10_relationOf_7 rfl (lv_at hl 2 rfl) ?_
    have hPc := hP.sub (ws' := []) [] rfl
    have hDc := hD.sub (ws' := []) [] (by decide) rfl
    have hFc := va_free (wc := []) hD hS hA [] rfl
    refine va_calli (va_runS (As := [.int p1]) (rest := []) ⟨hx, hb, hml, hown, hts⟩ (c_X10_isSolid l dC dI cB cI cJ H.size p1) (va_cwS 1 hts gX10_relationOf_X10_isSolid rfl rfl rfl (by decide +kernel) ⟨Nat.le_of_ble_eq_true rfl, Nat.le_of_ble_eq_true rfl⟩) ⟨fun a U g mk q => by obtain ⟨q0, q1, qP, qK, qD⟩ := q; exact ⟨q0, q1, qP, va_K.moved (u := U) (U := U.calling g mk a) (Vm.Alike.refl U.vm) qK, qD⟩, fun U hU hW => ⟨rfl, by rw [hU], by rw [hU]; exact hPc, va_K.moved hW.alike hK, hDc.weaken (fun _ _ _ _ => trivial)⟩⟩ rfl rfl hl.1 rfl (lv_room (Nat.le_of_ble_eq_true rfl)) dX10_relationOf_8 ⟨Nat.le_of_ble_eq_true rfl, Nat.le_of_ble_eq_true rfl⟩) hS (fun q _ h => hFc q h) hFc (fun r_3 u t H1 locs ht hvm hw hB hz1 hk1 hS => ?_)
    have hP1 : va_P (dC, dI) vwCl [] H1 := fun k q h => by simp at h
    have hD1 : va_D (va_A [] H.size) [] := ⟨fun i j p q h => by simp at h, fun k q h => by simp at h⟩
    obtain ⟨hP, hD⟩ := va_join (wr := [(x0, .inr (10, [.ref xTape, .ref xReader, .ref xBag, .ref xBld, .ref xAng, .ref xSum, .ref xPik, .int 0, .ref xHan, .ref xIns, .ref xShr, .ref xSta, .ref xTur])), (xSum, .inr (8, [.ref sM, .ref sP, .ref sA, .int 0])), (xHan, .inr (3, [.int 0, .int 0, .int 0, .ref hH, .ref hR, .ref hT, .ref hM])), (hH, .inl (cI, 7, (.inl (fun _ => 0)))), (hT, .inl (cJ, 7, (.inr (.inl (fun _ => 0))))), (hM, .inl (cJ, 6, (.inr (.inl (fun _ => 0)))))]) (w1 := []) hP hD [] [0, 1, 2, 3, 4, 5] rfl rfl (by decide) (by decide) hk1 hFc hP1 hD1
    generalize H1 = H at hP hS ⊢
    have hP : va_P (dC, dI) vwCl [(x0, .inr (10, [.ref xTape, .ref xReader, .ref xBag, .ref xBld, .ref xAng, .ref xSum, .ref xPik, .int 0, .ref xHan, .ref xIns, .ref xShr, .ref xSta, .ref xTur])), (xSum, .inr (8, [.ref sM, .ref sP, .ref sA, .int 0])), (xHan, .inr (3, [.int 0, .int 0, .int 0, .ref hH, .ref hR, .ref hT, .ref hM])), (hH, .inl (cI, 7, (.inl (fun _ => 0)))), (hT, .inl (cJ, 7, (.inr (.inl (fun _ => 0))))), (hM, .inl (cJ, 6, (.inr (.inl (fun _ => 0)))))] H := hP
    have hD : va_D A [(x0, .inr (10, [.ref xTape, .ref xReader, .ref xBag, .ref xBld, .ref xAng, .ref xSum, .ref xPik, .int 0, .ref xHan, .ref xIns, .ref xShr, .ref xSta, .ref xTur])), (xSum, .inr (8, [.ref sM, .ref sP, .ref sA, .int 0])), (xHan, .inr (3, [.int 0, .int 0, .int 0, .ref hH, .ref hR, .ref hT, .ref hM])), (hH, .inl (cI, 7, (.inl (fun _ => 0)))), (hT, .inl (cJ, 7, (.inr (.inl (fun _ => 0))))), (hM, .inl (cJ, 6, (.inr (.inl (fun _ => 0)))))] := hD
    rcases hw with ⟨rfl, k_4⟩ | ⟨rfl, k_4⟩
    · refine lv_if_ne (tgt := 17) hx hb dX10_relationOf_11 (by decide) (fun c => absurd (by decide) c) (fun _ => ?_)
      refine lv_ldc (v := (-1000000)) hx hb hown (hts (.constant RX10 140 (-1000000)) (by decide +kernel)) dX10_relationOf_14 ?_
      refine W.widen (k := 0) (n := 0) (Nat.le_of_ble_eq_true rfl) (Nat.le_of_ble_eq_true rfl) ?_
      exact W.iret (v := (-1000000)) hx hb hr (fun t ht hW => ⟨⟨(-1000000), (), rfl, (show (-1000000 : Int32) = sp_rel 14 p1 from (by unfold sp_rel; rw [if_neg (fun h9 => k_4 h9.2)])), trivial⟩, hS.F ht⟩) hS.2.2 dX10_relationOf_16
    · refine lv_if_ne (tgt := 17) hx hb dX10_relationOf_11 (by decide) (fun _ => ?_) (fun c => absurd c (by decide))
      refine lv_aload_n hx hb dX10_relationOf_17 rfl (lv_at hl 0 rfl) ?_
      refine lv_iload_n hx hb dX10_relationOf_18 rfl (lv_at hl 1 rfl) ?_
      have hPc := hP.sub (ws' := [(x0, .inr (10, [.ref xTape, .ref xReader, .ref xBag, .ref xBld, .ref xAng, .ref xSum, .ref xPik, .int 0, .ref xHan, .ref xIns, .ref xShr, .ref xSta, .ref xTur])), (xSum, .inr (8, [.ref sM, .ref sP, .ref sA, .int 0])), (xHan, .inr (3, [.int 0, .int 0, .int 0, .ref hH, .ref hR, .ref hT, .ref hM])), (hH, .inl (cI, 7, (.inl (fun _ => 0)))), (hT, .inl (cJ, 7, (.inr (.inl (fun _ => 0))))), (hM, .inl (cJ, 6, (.inr (.inl (fun _ => 0)))))]) [0, 1, 2, 3, 4, 5] rfl
      have hDc := hD.sub (ws' := [(x0, .inr (10, [.ref xTape, .ref xReader, .ref xBag, .ref xBld, .ref xAng, .ref xSum, .ref xPik, .int 0, .ref xHan, .ref xIns, .ref xShr, .ref xSta, .ref xTur])), (xSum, .inr (8, [.ref sM, .ref sP, .ref sA, .int 0])), (xHan, .inr (3, [.int 0, .int 0, .int 0, .ref hH, .ref hR, .ref hT, .ref hM])), (hH, .inl (cI, 7, (.inl (fun _ => 0)))), (hT, .inl (cJ, 7, (.inr (.inl (fun _ => 0))))), (hM, .inl (cJ, 6, (.inr (.inl (fun _ => 0)))))]) [0, 1, 2, 3, 4, 5] (by decide) rfl
      have hFc := va_free (wc := [(x0, .inr (10, [.ref xTape, .ref xReader, .ref xBag, .ref xBld, .ref xAng, .ref xSum, .ref xPik, .int 0, .ref xHan, .ref xIns, .ref xShr, .ref xSta, .ref xTur])), (xSum, .inr (8, [.ref sM, .ref sP, .ref sA, .int 0])), (xHan, .inr (3, [.int 0, .int 0, .int 0, .ref hH, .ref hR, .ref hT, .ref hM])), (hH, .inl (cI, 7, (.inl (fun _ => 0)))), (hT, .inl (cJ, 7, (.inr (.inl (fun _ => 0))))), (hM, .inl (cJ, 6, (.inr (.inl (fun _ => 0)))))]) hD hS hA [0, 1, 2, 3, 4, 5] rfl
      refine va_callv (va_runV (As := [.int 14]) (rest := []) ⟨hx, hb, hml, hown, hts⟩ (c_X10_hangSolids_14 l dC dI cB cI cJ H.size x0 xTape xReader xBag xBld xAng xSum xPik xHan xIns xShr xSta xTur sM sP sA hH hR hT hM (fun _ => 0) (fun _ => 0)) (cwV 1 hts gX10_relationOf_X10_hangSolids rfl rfl rfl (by decide +kernel) ⟨Nat.le_of_ble_eq_true rfl, Nat.le_of_ble_eq_true rfl⟩) ⟨fun a U g mk q => by obtain ⟨q0, q1, qP, qK, qD, qN0⟩ := q; exact ⟨q0, q1, qP, va_K.moved (u := U) (U := U.calling g mk a) (Vm.Alike.refl U.vm) qK, qD, va_Nw.same rfl rfl qN0⟩, va_recv hK hP (ci := 10) (q0 := 0) rfl rfl, fun U hU hW => ⟨rfl, by rw [hU], by rw [hU]; exact hPc, va_K.moved hW.alike hK, hDc.weaken (fun _ _ _ _ => trivial), va_Nw.warmM hW hN0⟩⟩ rfl rfl hl.1 rfl (lv_room (Nat.le_of_ble_eq_true rfl)) dX10_relationOf_19 ⟨Nat.le_of_ble_eq_true rfl, Nat.le_of_ble_eq_true rfl⟩) hS (fun q _ h => hFc q h) hFc (fun u t H1 locs ht hvm hw hB hz1 hk1 hS => ?_)
      obtain ⟨hP1, hK1, hD1⟩ := hB
      rw [ht] at hP1
      obtain ⟨hP, hD⟩ := va_join (wr := []) (w1 := [(x0, .inr (10, [.ref xTape, .ref xReader, .ref xBag, .ref xBld, .ref xAng, .ref xSum, .ref xPik, .int 0, .ref xHan, .ref xIns, .ref xShr, .ref xSta, .ref xTur])), (xHan, .inr (3, [.int 0, .int 3, .int 1, .ref hH, .ref hR, .ref hT, .ref hM])), (xSum, .inr (8, [.ref sM, .ref sP, .ref sA, .int 0])), (hH, .inl (cI, 7, (.inl (upd (upd (upd (fun _ => 0) (0 : Int32).toNatClampNeg 1) (0 : Int32).toNatClampNeg 2) (0 : Int32).toNatClampNeg 3)))), (hT, .inl (cJ, 7, (.inr (.inl (vp_updL (vp_updL (vp_updL (fun _ => 0) (0 : Int32).toNatClampNeg 1) (0 : Int32).toNatClampNeg 1) (0 : Int32).toNatClampNeg 1))))), (hM, .inl (cJ, 6, (.inr (.inl (vp_updL (fun _ => 0) (0 : Int32).toNatClampNeg 1)))))]) hP hD [0, 1, 2, 3, 4, 5] [] rfl rfl (by decide) (by decide) hk1 hFc hP1 hD1
      generalize H1 = H at hP hS ⊢
      have hP : va_P (dC, dI) vwCl [(x0, .inr (10, [.ref xTape, .ref xReader, .ref xBag, .ref xBld, .ref xAng, .ref xSum, .ref xPik, .int 0, .ref xHan, .ref xIns, .ref xShr, .ref xSta, .ref xTur])), (xHan, .inr (3, [.int 0, .int 3, .int 1, .ref hH, .ref hR, .ref hT, .ref hM])), (xSum, .inr (8, [.ref sM, .ref sP, .ref sA, .int 0])), (hH, .inl (cI, 7, (.inl (upd (upd (upd (fun _ => 0) (0 : Int32).toNatClampNeg 1) (0 : Int32).toNatClampNeg 2) (0 : Int32).toNatClampNeg 3)))), (hT, .inl (cJ, 7, (.inr (.inl (vp_updL (vp_updL (vp_updL (fun _ => 0) (0 : Int32).toNatClampNeg 1) (0 : Int32).toNatClampNeg 1) (0 : Int32).toNatClampNeg 1))))), (hM, .inl (cJ, 6, (.inr (.inl (vp_updL (fun _ => 0) (0 : Int32).toNatClampNeg 1)))))] H := hP
      have hD : va_D A [(x0, .inr (10, [.ref xTape, .ref xReader, .ref xBag, .ref xBld, .ref xAng, .ref xSum, .ref xPik, .int 0, .ref xHan, .ref xIns, .ref xShr, .ref xSta, .ref xTur])), (xHan, .inr (3, [.int 0, .int 3, .int 1, .ref hH, .ref hR, .ref hT, .ref hM])), (xSum, .inr (8, [.ref sM, .ref sP, .ref sA, .int 0])), (hH, .inl (cI, 7, (.inl (upd (upd (upd (fun _ => 0) (0 : Int32).toNatClampNeg 1) (0 : Int32).toNatClampNeg 2) (0 : Int32).toNatClampNeg 3)))), (hT, .inl (cJ, 7, (.inr (.inl (vp_updL (vp_updL (vp_updL (fun _ => 0) (0 : Int32).toNatClampNeg 1) (0 : Int32).toNatClampNeg 1) (0 : Int32).toNatClampNeg 1))))), (hM, .inl (cJ, 6, (.inr (.inl (vp_updL (fun _ => 0) (0 : Int32).toNatClampNeg 1)))))] := hD
      refine lv_aload_n hx hb dX10_relationOf_22 rfl (lv_at hl 0 rfl) ?_
      refine va_get (D := (dC, dI)) (ci := 10) (v := .ref xHan) (C := RX10) (T := TX10) (N := 13) hx hb hts hiX10 hown hK hP 0 rfl rfl 8 (by decide) (hts (.fieldLink RX10 61 "ScissorsTable" "hang" "LScissorsTable$Hang;") (by decide +kernel)) (fun _ h9 => h9) rfl dX10_relationOf_23 ?_
      have hPc := hP.sub (ws' := [(xHan, .inr (3, [.int 0, .int 3, .int 1, .ref hH, .ref hR, .ref hT, .ref hM])), (hM, .inl (cJ, 6, (.inr (.inl (vp_updL (fun _ => 0) (0 : Int32).toNatClampNeg 1)))))]) [1, 5] rfl
      have hDc := hD.sub (ws' := [(xHan, .inr (3, [.int 0, .int 3, .int 1, .ref hH, .ref hR, .ref hT, .ref hM])), (hM, .inl (cJ, 6, (.inr (.inl (vp_updL (fun _ => 0) (0 : Int32).toNatClampNeg 1)))))]) [1, 5] (by decide) rfl
      have hFc := va_free (wc := [(xHan, .inr (3, [.int 0, .int 3, .int 1, .ref hH, .ref hR, .ref hT, .ref hM])), (hM, .inl (cJ, 6, (.inr (.inl (vp_updL (fun _ => 0) (0 : Int32).toNatClampNeg 1)))))]) hD hS hA [1, 5] rfl
      refine va_calli (va_runV (As := []) (rest := []) ⟨hx, hb, hml, hown, hts⟩ (c_X3_canTell_t3 l dC dI cB cI cJ H.size xHan hH hR hT hM) (cwV 0 hts gX10_relationOf_X3_canTell rfl rfl rfl (by decide +kernel) ⟨Nat.le_of_ble_eq_true rfl, Nat.le_of_ble_eq_true rfl⟩) ⟨fun a U g mk q => by obtain ⟨q0, q1, qP, qK, qD⟩ := q; exact ⟨q0, q1, qP, va_K.moved (u := U) (U := U.calling g mk a) (Vm.Alike.refl U.vm) qK, qD⟩, va_recv hK hP (ci := 3) (q0 := 1) rfl rfl, fun U hU hW => ⟨rfl, by rw [hU], by rw [hU]; exact hPc, va_K.moved hW.alike hK, hDc.weaken (fun _ _ _ _ => trivial)⟩⟩ rfl rfl hl.1 rfl (lv_room (Nat.le_of_ble_eq_true rfl)) dX10_relationOf_26 ⟨Nat.le_of_ble_eq_true rfl, Nat.le_of_ble_eq_true rfl⟩) hS (fun q _ h => hFc q h) hFc (fun r_5 u t H1 locs ht hvm hw hB hz1 hk1 hS => ?_)
      obtain ⟨hP1, hK1, hD1⟩ := hB
      rw [ht] at hP1
      obtain ⟨hP, hD⟩ := va_join (wr := [(x0, .inr (10, [.ref xTape, .ref xReader, .ref xBag, .ref xBld, .ref xAng, .ref xSum, .ref xPik, .int 0, .ref xHan, .ref xIns, .ref xShr, .ref xSta, .ref xTur])), (xSum, .inr (8, [.ref sM, .ref sP, .ref sA, .int 0])), (hH, .inl (cI, 7, (.inl (upd (upd (upd (fun _ => 0) (0 : Int32).toNatClampNeg 1) (0 : Int32).toNatClampNeg 2) (0 : Int32).toNatClampNeg 3)))), (hT, .inl (cJ, 7, (.inr (.inl (vp_updL (vp_updL (vp_updL (fun _ => 0) (0 : Int32).toNatClampNeg 1) (0 : Int32).toNatClampNeg 1) (0 : Int32).toNatClampNeg 1)))))]) (w1 := [(xHan, .inr (3, [.int 0, .int 3, .int 1, .ref hH, .ref hR, .ref hT, .ref hM])), (hM, .inl (cJ, 6, (.inr (.inl (vp_updL (fun _ => 0) (0 : Int32).toNatClampNeg 1)))))]) hP hD [1, 5] [0, 2, 3, 4] rfl rfl (by decide) (by decide) hk1 hFc hP1 hD1
      generalize H1 = H at hP hS ⊢
      have hP : va_P (dC, dI) vwCl [(x0, .inr (10, [.ref xTape, .ref xReader, .ref xBag, .ref xBld, .ref xAng, .ref xSum, .ref xPik, .int 0, .ref xHan, .ref xIns, .ref xShr, .ref xSta, .ref xTur])), (xSum, .inr (8, [.ref sM, .ref sP, .ref sA, .int 0])), (hH, .inl (cI, 7, (.inl (upd (upd (upd (fun _ => 0) (0 : Int32).toNatClampNeg 1) (0 : Int32).toNatClampNeg 2) (0 : Int32).toNatClampNeg 3)))), (hT, .inl (cJ, 7, (.inr (.inl (vp_updL (vp_updL (vp_updL (fun _ => 0) (0 : Int32).toNatClampNeg 1) (0 : Int32).toNatClampNeg 1) (0 : Int32).toNatClampNeg 1))))), (xHan, .inr (3, [.int 0, .int 3, .int 1, .ref hH, .ref hR, .ref hT, .ref hM])), (hM, .inl (cJ, 6, (.inr (.inl (vp_updL (fun _ => 0) (0 : Int32).toNatClampNeg 1)))))] H := hP
      have hD : va_D A [(x0, .inr (10, [.ref xTape, .ref xReader, .ref xBag, .ref xBld, .ref xAng, .ref xSum, .ref xPik, .int 0, .ref xHan, .ref xIns, .ref xShr, .ref xSta, .ref xTur])), (xSum, .inr (8, [.ref sM, .ref sP, .ref sA, .int 0])), (hH, .inl (cI, 7, (.inl (upd (upd (upd (fun _ => 0) (0 : Int32).toNatClampNeg 1) (0 : Int32).toNatClampNeg 2) (0 : Int32).toNatClampNeg 3)))), (hT, .inl (cJ, 7, (.inr (.inl (vp_updL (vp_updL (vp_updL (fun _ => 0) (0 : Int32).toNatClampNeg 1) (0 : Int32).toNatClampNeg 1) (0 : Int32).toNatClampNeg 1))))), (xHan, .inr (3, [.int 0, .int 3, .int 1, .ref hH, .ref hR, .ref hT, .ref hM])), (hM, .inl (cJ, 6, (.inr (.inl (vp_updL (fun _ => 0) (0 : Int32).toNatClampNeg 1)))))] := hD
      have hr_5 := hw
      obtain rfl : r_5 = 1 := hr_5
      refine lv_if_ne (tgt := 35) hx hb dX10_relationOf_29 (by decide) (fun _ => ?_) (fun c => absurd c (by decide))
      rcases nk_split4 p1 (by (try simp only [nk_lt, nk_le, nk_eq, nk_wd, nk_c0, nk_c1, nk_c2, nk_c3, nk_c4, nk_c5, nk_c6, nk_c15, nk_c16, nk_c24, nk_c47, nk_c48, nk_c600, nk_c1728, nk_m1, nk_l0, nk_l1, nk_l2, nk_l3, nk_l5, nk_l15, nk_l24, nk_l47] at k_4); omega) with rfl | rfl | rfl | rfl
      · refine lv_iload_n hx hb dX10_relationOf_35 rfl (lv_at hl 1 rfl) ?_
        refine lv_iload_n hx hb dX10_relationOf_36 rfl (lv_at hl 2 rfl) ?_
        refine lv_ishr hx hb dX10_relationOf_37 ?_
        refine lv_topi (fun x_6 ex_6 => ?_)
        obtain rfl : x_6 = 14 := ex_6.trans (by first | rfl | decide)
        refine lv_iconst (v := 1) hx hb dX10_relationOf_38 (by decide) ?_
        refine lv_iand hx hb dX10_relationOf_39 ?_
        refine lv_topi (fun x_7 ex_7 => ?_)
        obtain rfl : x_7 = 0 := ex_7.trans (by first | rfl | decide)
        refine lv_if_ne (tgt := 45) hx hb dX10_relationOf_40 (by decide) (fun c => absurd (by decide) c) (fun _ => ?_)
        refine lv_iconst (v := 0) hx hb dX10_relationOf_43 (by decide) ?_
        refine W.widen (k := 0) (n := 0) (Nat.le_of_ble_eq_true rfl) (Nat.le_of_ble_eq_true rfl) ?_
        exact W.iret (v := 0) hx hb hr (fun t ht hW => ⟨⟨0, (), rfl, (by decide), trivial⟩, hS.F ht⟩) hS.2.2 dX10_relationOf_44
      · refine lv_iload_n hx hb dX10_relationOf_35 rfl (lv_at hl 1 rfl) ?_
        refine lv_iload_n hx hb dX10_relationOf_36 rfl (lv_at hl 2 rfl) ?_
        refine lv_ishr hx hb dX10_relationOf_37 ?_
        refine lv_topi (fun x_8 ex_8 => ?_)
        obtain rfl : x_8 = 7 := ex_8.trans (by first | rfl | decide)
        refine lv_iconst (v := 1) hx hb dX10_relationOf_38 (by decide) ?_
        refine lv_iand hx hb dX10_relationOf_39 ?_
        refine lv_topi (fun x_9 ex_9 => ?_)
        obtain rfl : x_9 = 1 := ex_9.trans (by first | rfl | decide)
        refine lv_if_ne (tgt := 45) hx hb dX10_relationOf_40 (by decide) (fun _ => ?_) (fun c => absurd c (by decide))
        refine lv_aload_n hx hb dX10_relationOf_45 rfl (lv_at hl 0 rfl) ?_
        refine va_get (D := (dC, dI)) (ci := 10) (v := .ref xHan) (C := RX10) (T := TX10) (N := 13) hx hb hts hiX10 hown hK hP 0 rfl rfl 8 (by decide) (hts (.fieldLink RX10 61 "ScissorsTable" "hang" "LScissorsTable$Hang;") (by decide +kernel)) (fun _ h9 => h9) rfl dX10_relationOf_46 ?_
        refine lv_iload_n hx hb dX10_relationOf_49 rfl (lv_at hl 1 rfl) ?_
        refine lv_iconst (v := 1) hx hb dX10_relationOf_50 (by decide) ?_
        refine lv_iload_n hx hb dX10_relationOf_51 rfl (lv_at hl 2 rfl) ?_
        refine lv_ishl hx hb dX10_relationOf_52 ?_
        refine lv_topi (fun x_10 ex_10 => ?_)
        obtain rfl : x_10 = 2 := ex_10.trans (by first | rfl | decide)
        refine lv_iconst (v := 1) hx hb dX10_relationOf_53 (by decide) ?_
        refine lv_isub hx hb dX10_relationOf_54 ?_
        refine lv_topi (fun x_11 ex_11 => ?_)
        obtain rfl : x_11 = 1 := ex_11.trans (by first | rfl | decide)
        refine lv_iand hx hb dX10_relationOf_55 ?_
        refine lv_topi (fun x_12 ex_12 => ?_)
        obtain rfl : x_12 = 0 := ex_12.trans (by first | rfl | decide)
        have hPc := hP.sub (ws' := []) [] rfl
        have hDc := hD.sub (ws' := []) [] (by decide) rfl
        have hFc := va_free (wc := []) hD hS hA [] rfl
        refine va_calli (va_runS (As := [.int 0]) (rest := [.ref xHan]) ⟨hx, hb, hml, hown, hts⟩ (c_J6_bitCount_0f7a4_0 l dC dI cB cI cJ H.size ) (va_cwS 1 hts gX10_relationOf_J6_bitCount_0f7a4 rfl rfl rfl (by decide +kernel) ⟨Nat.le_of_ble_eq_true rfl, Nat.le_of_ble_eq_true rfl⟩) ⟨fun a U g mk q => by obtain ⟨q0, q1, qP, qK, qD⟩ := q; exact ⟨q0, q1, qP, va_K.moved (u := U) (U := U.calling g mk a) (Vm.Alike.refl U.vm) qK, qD⟩, fun U hU hW => ⟨rfl, by rw [hU], by rw [hU]; exact hPc, va_K.moved hW.alike hK, hDc.weaken (fun _ _ _ _ => trivial)⟩⟩ rfl rfl hl.1 rfl (lv_room (Nat.le_of_ble_eq_true rfl)) dX10_relationOf_56 ⟨Nat.le_of_ble_eq_true rfl, Nat.le_of_ble_eq_true rfl⟩) hS (fun q _ h => hFc q h) hFc (fun r_13 u t H1 locs ht hvm hw hB hz1 hk1 hS => ?_)
        have hP1 : va_P (dC, dI) vwCl [] H1 := fun k q h => by simp at h
        have hD1 : va_D (va_A [] H.size) [] := ⟨fun i j p q h => by simp at h, fun k q h => by simp at h⟩
        obtain ⟨hP, hD⟩ := va_join (wr := [(x0, .inr (10, [.ref xTape, .ref xReader, .ref xBag, .ref xBld, .ref xAng, .ref xSum, .ref xPik, .int 0, .ref xHan, .ref xIns, .ref xShr, .ref xSta, .ref xTur])), (xSum, .inr (8, [.ref sM, .ref sP, .ref sA, .int 0])), (hH, .inl (cI, 7, (.inl (upd (upd (upd (fun _ => 0) (0 : Int32).toNatClampNeg 1) (0 : Int32).toNatClampNeg 2) (0 : Int32).toNatClampNeg 3)))), (hT, .inl (cJ, 7, (.inr (.inl (vp_updL (vp_updL (vp_updL (fun _ => 0) (0 : Int32).toNatClampNeg 1) (0 : Int32).toNatClampNeg 1) (0 : Int32).toNatClampNeg 1))))), (xHan, .inr (3, [.int 0, .int 3, .int 1, .ref hH, .ref hR, .ref hT, .ref hM])), (hM, .inl (cJ, 6, (.inr (.inl (vp_updL (fun _ => 0) (0 : Int32).toNatClampNeg 1)))))]) (w1 := []) hP hD [] [0, 1, 2, 3, 4, 5] rfl rfl (by decide) (by decide) hk1 hFc hP1 hD1
        generalize H1 = H at hP hS ⊢
        have hP : va_P (dC, dI) vwCl [(x0, .inr (10, [.ref xTape, .ref xReader, .ref xBag, .ref xBld, .ref xAng, .ref xSum, .ref xPik, .int 0, .ref xHan, .ref xIns, .ref xShr, .ref xSta, .ref xTur])), (xSum, .inr (8, [.ref sM, .ref sP, .ref sA, .int 0])), (hH, .inl (cI, 7, (.inl (upd (upd (upd (fun _ => 0) (0 : Int32).toNatClampNeg 1) (0 : Int32).toNatClampNeg 2) (0 : Int32).toNatClampNeg 3)))), (hT, .inl (cJ, 7, (.inr (.inl (vp_updL (vp_updL (vp_updL (fun _ => 0) (0 : Int32).toNatClampNeg 1) (0 : Int32).toNatClampNeg 1) (0 : Int32).toNatClampNeg 1))))), (xHan, .inr (3, [.int 0, .int 3, .int 1, .ref hH, .ref hR, .ref hT, .ref hM])), (hM, .inl (cJ, 6, (.inr (.inl (vp_updL (fun _ => 0) (0 : Int32).toNatClampNeg 1)))))] H := hP
        have hD : va_D A [(x0, .inr (10, [.ref xTape, .ref xReader, .ref xBag, .ref xBld, .ref xAng, .ref xSum, .ref xPik, .int 0, .ref xHan, .ref xIns, .ref xShr, .ref xSta, .ref xTur])), (xSum, .inr (8, [.ref sM, .ref sP, .ref sA, .int 0])), (hH, .inl (cI, 7, (.inl (upd (upd (upd (fun _ => 0) (0 : Int32).toNatClampNeg 1) (0 : Int32).toNatClampNeg 2) (0 : Int32).toNatClampNeg 3)))), (hT, .inl (cJ, 7, (.inr (.inl (vp_updL (vp_updL (vp_updL (fun _ => 0) (0 : Int32).toNatClampNeg 1) (0 : Int32).toNatClampNeg 1) (0 : Int32).toNatClampNeg 1))))), (xHan, .inr (3, [.int 0, .int 3, .int 1, .ref hH, .ref hR, .ref hT, .ref hM])), (hM, .inl (cJ, 6, (.inr (.inl (vp_updL (fun _ => 0) (0 : Int32).toNatClampNeg 1)))))] := hD
        have hr_13 := hw
        obtain rfl : r_13 = 0 := hr_13
        have hPc := hP.sub (ws' := [(xHan, .inr (3, [.int 0, .int 3, .int 1, .ref hH, .ref hR, .ref hT, .ref hM])), (hM, .inl (cJ, 6, (.inr (.inl (vp_updL (fun _ => 0) (0 : Int32).toNatClampNeg 1)))))]) [4, 5] rfl
        have hDc := hD.sub (ws' := [(xHan, .inr (3, [.int 0, .int 3, .int 1, .ref hH, .ref hR, .ref hT, .ref hM])), (hM, .inl (cJ, 6, (.inr (.inl (vp_updL (fun _ => 0) (0 : Int32).toNatClampNeg 1)))))]) [4, 5] (by decide) rfl
        have hFc := va_free (wc := [(xHan, .inr (3, [.int 0, .int 3, .int 1, .ref hH, .ref hR, .ref hT, .ref hM])), (hM, .inl (cJ, 6, (.inr (.inl (vp_updL (fun _ => 0) (0 : Int32).toNatClampNeg 1)))))]) hD hS hA [4, 5] rfl
        refine va_calli (va_runV (As := [.int 0]) (rest := []) ⟨hx, hb, hml, hown, hts⟩ (c_X3_timesOf_t3_0 l dC dI cB cI cJ H.size xHan hH hR hT hM) (cwV 1 hts gX10_relationOf_X3_timesOf rfl rfl rfl (by decide +kernel) ⟨Nat.le_of_ble_eq_true rfl, Nat.le_of_ble_eq_true rfl⟩) ⟨fun a U g mk q => by obtain ⟨q0, q1, qP, qK, qD⟩ := q; exact ⟨q0, q1, qP, va_K.moved (u := U) (U := U.calling g mk a) (Vm.Alike.refl U.vm) qK, qD⟩, va_recv hK hP (ci := 3) (q0 := 4) rfl rfl, fun U hU hW => ⟨rfl, by rw [hU], by rw [hU]; exact hPc, va_K.moved hW.alike hK, hDc.weaken (fun _ _ _ _ => trivial)⟩⟩ rfl rfl hl.1 rfl (lv_room (Nat.le_of_ble_eq_true rfl)) dX10_relationOf_59 ⟨Nat.le_of_ble_eq_true rfl, Nat.le_of_ble_eq_true rfl⟩) hS (fun q _ h => hFc q h) hFc (fun r_14 u t H1 locs ht hvm hw hB hz1 hk1 hS => ?_)
        have hP1 : va_P (dC, dI) vwCl [] H1 := fun k q h => by simp at h
        have hD1 : va_D (va_A [(xHan, .inr (3, [.int 0, .int 3, .int 1, .ref hH, .ref hR, .ref hT, .ref hM])), (hM, .inl (cJ, 6, (.inr (.inl (vp_updL (fun _ => 0) (0 : Int32).toNatClampNeg 1)))))] H.size) [] := ⟨fun i j p q h => by simp at h, fun k q h => by simp at h⟩
        obtain ⟨hP, hD⟩ := va_join (wr := [(x0, .inr (10, [.ref xTape, .ref xReader, .ref xBag, .ref xBld, .ref xAng, .ref xSum, .ref xPik, .int 0, .ref xHan, .ref xIns, .ref xShr, .ref xSta, .ref xTur])), (xSum, .inr (8, [.ref sM, .ref sP, .ref sA, .int 0])), (hH, .inl (cI, 7, (.inl (upd (upd (upd (fun _ => 0) (0 : Int32).toNatClampNeg 1) (0 : Int32).toNatClampNeg 2) (0 : Int32).toNatClampNeg 3)))), (hT, .inl (cJ, 7, (.inr (.inl (vp_updL (vp_updL (vp_updL (fun _ => 0) (0 : Int32).toNatClampNeg 1) (0 : Int32).toNatClampNeg 1) (0 : Int32).toNatClampNeg 1)))))]) (w1 := []) hP hD [4, 5] [0, 1, 2, 3] rfl rfl (by decide) (by decide) hk1 hFc hP1 hD1
        generalize H1 = H at hP hS ⊢
        have hP : va_P (dC, dI) vwCl [(x0, .inr (10, [.ref xTape, .ref xReader, .ref xBag, .ref xBld, .ref xAng, .ref xSum, .ref xPik, .int 0, .ref xHan, .ref xIns, .ref xShr, .ref xSta, .ref xTur])), (xSum, .inr (8, [.ref sM, .ref sP, .ref sA, .int 0])), (hH, .inl (cI, 7, (.inl (upd (upd (upd (fun _ => 0) (0 : Int32).toNatClampNeg 1) (0 : Int32).toNatClampNeg 2) (0 : Int32).toNatClampNeg 3)))), (hT, .inl (cJ, 7, (.inr (.inl (vp_updL (vp_updL (vp_updL (fun _ => 0) (0 : Int32).toNatClampNeg 1) (0 : Int32).toNatClampNeg 1) (0 : Int32).toNatClampNeg 1)))))] H := hP
        have hD : va_D A [(x0, .inr (10, [.ref xTape, .ref xReader, .ref xBag, .ref xBld, .ref xAng, .ref xSum, .ref xPik, .int 0, .ref xHan, .ref xIns, .ref xShr, .ref xSta, .ref xTur])), (xSum, .inr (8, [.ref sM, .ref sP, .ref sA, .int 0])), (hH, .inl (cI, 7, (.inl (upd (upd (upd (fun _ => 0) (0 : Int32).toNatClampNeg 1) (0 : Int32).toNatClampNeg 2) (0 : Int32).toNatClampNeg 3)))), (hT, .inl (cJ, 7, (.inr (.inl (vp_updL (vp_updL (vp_updL (fun _ => 0) (0 : Int32).toNatClampNeg 1) (0 : Int32).toNatClampNeg 1) (0 : Int32).toNatClampNeg 1)))))] := hD
        have hr_14 := hw
        obtain rfl : r_14 = 1 := hr_14
        refine W.widen (k := 0) (n := 0) (Nat.le_of_ble_eq_true rfl) (Nat.le_of_ble_eq_true rfl) ?_
        exact W.iret (v := 1) hx hb hr (fun t ht hW => ⟨⟨1, (), rfl, (by decide), trivial⟩, hS.F ht⟩) hS.2.2 dX10_relationOf_62
      · refine lv_iload_n hx hb dX10_relationOf_35 rfl (lv_at hl 1 rfl) ?_
        refine lv_iload_n hx hb dX10_relationOf_36 rfl (lv_at hl 2 rfl) ?_
        refine lv_ishr hx hb dX10_relationOf_37 ?_
        refine lv_topi (fun x_15 ex_15 => ?_)
        obtain rfl : x_15 = 3 := ex_15.trans (by first | rfl | decide)
        refine lv_iconst (v := 1) hx hb dX10_relationOf_38 (by decide) ?_
        refine lv_iand hx hb dX10_relationOf_39 ?_
        refine lv_topi (fun x_16 ex_16 => ?_)
        obtain rfl : x_16 = 1 := ex_16.trans (by first | rfl | decide)
        refine lv_if_ne (tgt := 45) hx hb dX10_relationOf_40 (by decide) (fun _ => ?_) (fun c => absurd c (by decide))
        refine lv_aload_n hx hb dX10_relationOf_45 rfl (lv_at hl 0 rfl) ?_
        refine va_get (D := (dC, dI)) (ci := 10) (v := .ref xHan) (C := RX10) (T := TX10) (N := 13) hx hb hts hiX10 hown hK hP 0 rfl rfl 8 (by decide) (hts (.fieldLink RX10 61 "ScissorsTable" "hang" "LScissorsTable$Hang;") (by decide +kernel)) (fun _ h9 => h9) rfl dX10_relationOf_46 ?_
        refine lv_iload_n hx hb dX10_relationOf_49 rfl (lv_at hl 1 rfl) ?_
        refine lv_iconst (v := 1) hx hb dX10_relationOf_50 (by decide) ?_
        refine lv_iload_n hx hb dX10_relationOf_51 rfl (lv_at hl 2 rfl) ?_
        refine lv_ishl hx hb dX10_relationOf_52 ?_
        refine lv_topi (fun x_17 ex_17 => ?_)
        obtain rfl : x_17 = 4 := ex_17.trans (by first | rfl | decide)
        refine lv_iconst (v := 1) hx hb dX10_relationOf_53 (by decide) ?_
        refine lv_isub hx hb dX10_relationOf_54 ?_
        refine lv_topi (fun x_18 ex_18 => ?_)
        obtain rfl : x_18 = 3 := ex_18.trans (by first | rfl | decide)
        refine lv_iand hx hb dX10_relationOf_55 ?_
        refine lv_topi (fun x_19 ex_19 => ?_)
        obtain rfl : x_19 = 2 := ex_19.trans (by first | rfl | decide)
        have hPc := hP.sub (ws' := []) [] rfl
        have hDc := hD.sub (ws' := []) [] (by decide) rfl
        have hFc := va_free (wc := []) hD hS hA [] rfl
        refine va_calli (va_runS (As := [.int 2]) (rest := [.ref xHan]) ⟨hx, hb, hml, hown, hts⟩ (c_J6_bitCount_0f7a4_2 l dC dI cB cI cJ H.size ) (va_cwS 1 hts gX10_relationOf_J6_bitCount_0f7a4 rfl rfl rfl (by decide +kernel) ⟨Nat.le_of_ble_eq_true rfl, Nat.le_of_ble_eq_true rfl⟩) ⟨fun a U g mk q => by obtain ⟨q0, q1, qP, qK, qD⟩ := q; exact ⟨q0, q1, qP, va_K.moved (u := U) (U := U.calling g mk a) (Vm.Alike.refl U.vm) qK, qD⟩, fun U hU hW => ⟨rfl, by rw [hU], by rw [hU]; exact hPc, va_K.moved hW.alike hK, hDc.weaken (fun _ _ _ _ => trivial)⟩⟩ rfl rfl hl.1 rfl (lv_room (Nat.le_of_ble_eq_true rfl)) dX10_relationOf_56 ⟨Nat.le_of_ble_eq_true rfl, Nat.le_of_ble_eq_true rfl⟩) hS (fun q _ h => hFc q h) hFc (fun r_20 u t H1 locs ht hvm hw hB hz1 hk1 hS => ?_)
        have hP1 : va_P (dC, dI) vwCl [] H1 := fun k q h => by simp at h
        have hD1 : va_D (va_A [] H.size) [] := ⟨fun i j p q h => by simp at h, fun k q h => by simp at h⟩
        obtain ⟨hP, hD⟩ := va_join (wr := [(x0, .inr (10, [.ref xTape, .ref xReader, .ref xBag, .ref xBld, .ref xAng, .ref xSum, .ref xPik, .int 0, .ref xHan, .ref xIns, .ref xShr, .ref xSta, .ref xTur])), (xSum, .inr (8, [.ref sM, .ref sP, .ref sA, .int 0])), (hH, .inl (cI, 7, (.inl (upd (upd (upd (fun _ => 0) (0 : Int32).toNatClampNeg 1) (0 : Int32).toNatClampNeg 2) (0 : Int32).toNatClampNeg 3)))), (hT, .inl (cJ, 7, (.inr (.inl (vp_updL (vp_updL (vp_updL (fun _ => 0) (0 : Int32).toNatClampNeg 1) (0 : Int32).toNatClampNeg 1) (0 : Int32).toNatClampNeg 1))))), (xHan, .inr (3, [.int 0, .int 3, .int 1, .ref hH, .ref hR, .ref hT, .ref hM])), (hM, .inl (cJ, 6, (.inr (.inl (vp_updL (fun _ => 0) (0 : Int32).toNatClampNeg 1)))))]) (w1 := []) hP hD [] [0, 1, 2, 3, 4, 5] rfl rfl (by decide) (by decide) hk1 hFc hP1 hD1
        generalize H1 = H at hP hS ⊢
        have hP : va_P (dC, dI) vwCl [(x0, .inr (10, [.ref xTape, .ref xReader, .ref xBag, .ref xBld, .ref xAng, .ref xSum, .ref xPik, .int 0, .ref xHan, .ref xIns, .ref xShr, .ref xSta, .ref xTur])), (xSum, .inr (8, [.ref sM, .ref sP, .ref sA, .int 0])), (hH, .inl (cI, 7, (.inl (upd (upd (upd (fun _ => 0) (0 : Int32).toNatClampNeg 1) (0 : Int32).toNatClampNeg 2) (0 : Int32).toNatClampNeg 3)))), (hT, .inl (cJ, 7, (.inr (.inl (vp_updL (vp_updL (vp_updL (fun _ => 0) (0 : Int32).toNatClampNeg 1) (0 : Int32).toNatClampNeg 1) (0 : Int32).toNatClampNeg 1))))), (xHan, .inr (3, [.int 0, .int 3, .int 1, .ref hH, .ref hR, .ref hT, .ref hM])), (hM, .inl (cJ, 6, (.inr (.inl (vp_updL (fun _ => 0) (0 : Int32).toNatClampNeg 1)))))] H := hP
        have hD : va_D A [(x0, .inr (10, [.ref xTape, .ref xReader, .ref xBag, .ref xBld, .ref xAng, .ref xSum, .ref xPik, .int 0, .ref xHan, .ref xIns, .ref xShr, .ref xSta, .ref xTur])), (xSum, .inr (8, [.ref sM, .ref sP, .ref sA, .int 0])), (hH, .inl (cI, 7, (.inl (upd (upd (upd (fun _ => 0) (0 : Int32).toNatClampNeg 1) (0 : Int32).toNatClampNeg 2) (0 : Int32).toNatClampNeg 3)))), (hT, .inl (cJ, 7, (.inr (.inl (vp_updL (vp_updL (vp_updL (fun _ => 0) (0 : Int32).toNatClampNeg 1) (0 : Int32).toNatClampNeg 1) (0 : Int32).toNatClampNeg 1))))), (xHan, .inr (3, [.int 0, .int 3, .int 1, .ref hH, .ref hR, .ref hT, .ref hM])), (hM, .inl (cJ, 6, (.inr (.inl (vp_updL (fun _ => 0) (0 : Int32).toNatClampNeg 1)))))] := hD
        have hr_20 := hw
        obtain rfl : r_20 = 1 := hr_20
        have hPc := hP.sub (ws' := [(xHan, .inr (3, [.int 0, .int 3, .int 1, .ref hH, .ref hR, .ref hT, .ref hM])), (hM, .inl (cJ, 6, (.inr (.inl (vp_updL (fun _ => 0) (0 : Int32).toNatClampNeg 1)))))]) [4, 5] rfl
        have hDc := hD.sub (ws' := [(xHan, .inr (3, [.int 0, .int 3, .int 1, .ref hH, .ref hR, .ref hT, .ref hM])), (hM, .inl (cJ, 6, (.inr (.inl (vp_updL (fun _ => 0) (0 : Int32).toNatClampNeg 1)))))]) [4, 5] (by decide) rfl
        have hFc := va_free (wc := [(xHan, .inr (3, [.int 0, .int 3, .int 1, .ref hH, .ref hR, .ref hT, .ref hM])), (hM, .inl (cJ, 6, (.inr (.inl (vp_updL (fun _ => 0) (0 : Int32).toNatClampNeg 1)))))]) hD hS hA [4, 5] rfl
        refine va_calli (va_runV (As := [.int 1]) (rest := []) ⟨hx, hb, hml, hown, hts⟩ (c_X3_timesOf_t3_1 l dC dI cB cI cJ H.size xHan hH hR hT hM) (cwV 1 hts gX10_relationOf_X3_timesOf rfl rfl rfl (by decide +kernel) ⟨Nat.le_of_ble_eq_true rfl, Nat.le_of_ble_eq_true rfl⟩) ⟨fun a U g mk q => by obtain ⟨q0, q1, qP, qK, qD⟩ := q; exact ⟨q0, q1, qP, va_K.moved (u := U) (U := U.calling g mk a) (Vm.Alike.refl U.vm) qK, qD⟩, va_recv hK hP (ci := 3) (q0 := 4) rfl rfl, fun U hU hW => ⟨rfl, by rw [hU], by rw [hU]; exact hPc, va_K.moved hW.alike hK, hDc.weaken (fun _ _ _ _ => trivial)⟩⟩ rfl rfl hl.1 rfl (lv_room (Nat.le_of_ble_eq_true rfl)) dX10_relationOf_59 ⟨Nat.le_of_ble_eq_true rfl, Nat.le_of_ble_eq_true rfl⟩) hS (fun q _ h => hFc q h) hFc (fun r_21 u t H1 locs ht hvm hw hB hz1 hk1 hS => ?_)
        have hP1 : va_P (dC, dI) vwCl [] H1 := fun k q h => by simp at h
        have hD1 : va_D (va_A [(xHan, .inr (3, [.int 0, .int 3, .int 1, .ref hH, .ref hR, .ref hT, .ref hM])), (hM, .inl (cJ, 6, (.inr (.inl (vp_updL (fun _ => 0) (0 : Int32).toNatClampNeg 1)))))] H.size) [] := ⟨fun i j p q h => by simp at h, fun k q h => by simp at h⟩
        obtain ⟨hP, hD⟩ := va_join (wr := [(x0, .inr (10, [.ref xTape, .ref xReader, .ref xBag, .ref xBld, .ref xAng, .ref xSum, .ref xPik, .int 0, .ref xHan, .ref xIns, .ref xShr, .ref xSta, .ref xTur])), (xSum, .inr (8, [.ref sM, .ref sP, .ref sA, .int 0])), (hH, .inl (cI, 7, (.inl (upd (upd (upd (fun _ => 0) (0 : Int32).toNatClampNeg 1) (0 : Int32).toNatClampNeg 2) (0 : Int32).toNatClampNeg 3)))), (hT, .inl (cJ, 7, (.inr (.inl (vp_updL (vp_updL (vp_updL (fun _ => 0) (0 : Int32).toNatClampNeg 1) (0 : Int32).toNatClampNeg 1) (0 : Int32).toNatClampNeg 1)))))]) (w1 := []) hP hD [4, 5] [0, 1, 2, 3] rfl rfl (by decide) (by decide) hk1 hFc hP1 hD1
        generalize H1 = H at hP hS ⊢
        have hP : va_P (dC, dI) vwCl [(x0, .inr (10, [.ref xTape, .ref xReader, .ref xBag, .ref xBld, .ref xAng, .ref xSum, .ref xPik, .int 0, .ref xHan, .ref xIns, .ref xShr, .ref xSta, .ref xTur])), (xSum, .inr (8, [.ref sM, .ref sP, .ref sA, .int 0])), (hH, .inl (cI, 7, (.inl (upd (upd (upd (fun _ => 0) (0 : Int32).toNatClampNeg 1) (0 : Int32).toNatClampNeg 2) (0 : Int32).toNatClampNeg 3)))), (hT, .inl (cJ, 7, (.inr (.inl (vp_updL (vp_updL (vp_updL (fun _ => 0) (0 : Int32).toNatClampNeg 1) (0 : Int32).toNatClampNeg 1) (0 : Int32).toNatClampNeg 1)))))] H := hP
        have hD : va_D A [(x0, .inr (10, [.ref xTape, .ref xReader, .ref xBag, .ref xBld, .ref xAng, .ref xSum, .ref xPik, .int 0, .ref xHan, .ref xIns, .ref xShr, .ref xSta, .ref xTur])), (xSum, .inr (8, [.ref sM, .ref sP, .ref sA, .int 0])), (hH, .inl (cI, 7, (.inl (upd (upd (upd (fun _ => 0) (0 : Int32).toNatClampNeg 1) (0 : Int32).toNatClampNeg 2) (0 : Int32).toNatClampNeg 3)))), (hT, .inl (cJ, 7, (.inr (.inl (vp_updL (vp_updL (vp_updL (fun _ => 0) (0 : Int32).toNatClampNeg 1) (0 : Int32).toNatClampNeg 1) (0 : Int32).toNatClampNeg 1)))))] := hD
        have hr_21 := hw
        obtain rfl : r_21 = 0 := hr_21
        refine W.widen (k := 0) (n := 0) (Nat.le_of_ble_eq_true rfl) (Nat.le_of_ble_eq_true rfl) ?_
        exact W.iret (v := 0) hx hb hr (fun t ht hW => ⟨⟨0, (), rfl, (by decide), trivial⟩, hS.F ht⟩) hS.2.2 dX10_relationOf_62
      · refine lv_iload_n hx hb dX10_relationOf_35 rfl (lv_at hl 1 rfl) ?_
        refine lv_iload_n hx hb dX10_relationOf_36 rfl (lv_at hl 2 rfl) ?_
        refine lv_ishr hx hb dX10_relationOf_37 ?_
        refine lv_topi (fun x_22 ex_22 => ?_)
        obtain rfl : x_22 = 1 := ex_22.trans (by first | rfl | decide)
        refine lv_iconst (v := 1) hx hb dX10_relationOf_38 (by decide) ?_
        refine lv_iand hx hb dX10_relationOf_39 ?_
        refine lv_topi (fun x_23 ex_23 => ?_)
        obtain rfl : x_23 = 1 := ex_23.trans (by first | rfl | decide)
        refine lv_if_ne (tgt := 45) hx hb dX10_relationOf_40 (by decide) (fun _ => ?_) (fun c => absurd c (by decide))
        refine lv_aload_n hx hb dX10_relationOf_45 rfl (lv_at hl 0 rfl) ?_
        refine va_get (D := (dC, dI)) (ci := 10) (v := .ref xHan) (C := RX10) (T := TX10) (N := 13) hx hb hts hiX10 hown hK hP 0 rfl rfl 8 (by decide) (hts (.fieldLink RX10 61 "ScissorsTable" "hang" "LScissorsTable$Hang;") (by decide +kernel)) (fun _ h9 => h9) rfl dX10_relationOf_46 ?_
        refine lv_iload_n hx hb dX10_relationOf_49 rfl (lv_at hl 1 rfl) ?_
        refine lv_iconst (v := 1) hx hb dX10_relationOf_50 (by decide) ?_
        refine lv_iload_n hx hb dX10_relationOf_51 rfl (lv_at hl 2 rfl) ?_
        refine lv_ishl hx hb dX10_relationOf_52 ?_
        refine lv_topi (fun x_24 ex_24 => ?_)
        obtain rfl : x_24 = 8 := ex_24.trans (by first | rfl | decide)
        refine lv_iconst (v := 1) hx hb dX10_relationOf_53 (by decide) ?_
        refine lv_isub hx hb dX10_relationOf_54 ?_
        refine lv_topi (fun x_25 ex_25 => ?_)
        obtain rfl : x_25 = 7 := ex_25.trans (by first | rfl | decide)
        refine lv_iand hx hb dX10_relationOf_55 ?_
        refine lv_topi (fun x_26 ex_26 => ?_)
        obtain rfl : x_26 = 6 := ex_26.trans (by first | rfl | decide)
        have hPc := hP.sub (ws' := []) [] rfl
        have hDc := hD.sub (ws' := []) [] (by decide) rfl
        have hFc := va_free (wc := []) hD hS hA [] rfl
        refine va_calli (va_runS (As := [.int 6]) (rest := [.ref xHan]) ⟨hx, hb, hml, hown, hts⟩ (c_J6_bitCount_0f7a4_6 l dC dI cB cI cJ H.size ) (va_cwS 1 hts gX10_relationOf_J6_bitCount_0f7a4 rfl rfl rfl (by decide +kernel) ⟨Nat.le_of_ble_eq_true rfl, Nat.le_of_ble_eq_true rfl⟩) ⟨fun a U g mk q => by obtain ⟨q0, q1, qP, qK, qD⟩ := q; exact ⟨q0, q1, qP, va_K.moved (u := U) (U := U.calling g mk a) (Vm.Alike.refl U.vm) qK, qD⟩, fun U hU hW => ⟨rfl, by rw [hU], by rw [hU]; exact hPc, va_K.moved hW.alike hK, hDc.weaken (fun _ _ _ _ => trivial)⟩⟩ rfl rfl hl.1 rfl (lv_room (Nat.le_of_ble_eq_true rfl)) dX10_relationOf_56 ⟨Nat.le_of_ble_eq_true rfl, Nat.le_of_ble_eq_true rfl⟩) hS (fun q _ h => hFc q h) hFc (fun r_27 u t H1 locs ht hvm hw hB hz1 hk1 hS => ?_)
        have hP1 : va_P (dC, dI) vwCl [] H1 := fun k q h => by simp at h
        have hD1 : va_D (va_A [] H.size) [] := ⟨fun i j p q h => by simp at h, fun k q h => by simp at h⟩
        obtain ⟨hP, hD⟩ := va_join (wr := [(x0, .inr (10, [.ref xTape, .ref xReader, .ref xBag, .ref xBld, .ref xAng, .ref xSum, .ref xPik, .int 0, .ref xHan, .ref xIns, .ref xShr, .ref xSta, .ref xTur])), (xSum, .inr (8, [.ref sM, .ref sP, .ref sA, .int 0])), (hH, .inl (cI, 7, (.inl (upd (upd (upd (fun _ => 0) (0 : Int32).toNatClampNeg 1) (0 : Int32).toNatClampNeg 2) (0 : Int32).toNatClampNeg 3)))), (hT, .inl (cJ, 7, (.inr (.inl (vp_updL (vp_updL (vp_updL (fun _ => 0) (0 : Int32).toNatClampNeg 1) (0 : Int32).toNatClampNeg 1) (0 : Int32).toNatClampNeg 1))))), (xHan, .inr (3, [.int 0, .int 3, .int 1, .ref hH, .ref hR, .ref hT, .ref hM])), (hM, .inl (cJ, 6, (.inr (.inl (vp_updL (fun _ => 0) (0 : Int32).toNatClampNeg 1)))))]) (w1 := []) hP hD [] [0, 1, 2, 3, 4, 5] rfl rfl (by decide) (by decide) hk1 hFc hP1 hD1
        generalize H1 = H at hP hS ⊢
        have hP : va_P (dC, dI) vwCl [(x0, .inr (10, [.ref xTape, .ref xReader, .ref xBag, .ref xBld, .ref xAng, .ref xSum, .ref xPik, .int 0, .ref xHan, .ref xIns, .ref xShr, .ref xSta, .ref xTur])), (xSum, .inr (8, [.ref sM, .ref sP, .ref sA, .int 0])), (hH, .inl (cI, 7, (.inl (upd (upd (upd (fun _ => 0) (0 : Int32).toNatClampNeg 1) (0 : Int32).toNatClampNeg 2) (0 : Int32).toNatClampNeg 3)))), (hT, .inl (cJ, 7, (.inr (.inl (vp_updL (vp_updL (vp_updL (fun _ => 0) (0 : Int32).toNatClampNeg 1) (0 : Int32).toNatClampNeg 1) (0 : Int32).toNatClampNeg 1))))), (xHan, .inr (3, [.int 0, .int 3, .int 1, .ref hH, .ref hR, .ref hT, .ref hM])), (hM, .inl (cJ, 6, (.inr (.inl (vp_updL (fun _ => 0) (0 : Int32).toNatClampNeg 1)))))] H := hP
        have hD : va_D A [(x0, .inr (10, [.ref xTape, .ref xReader, .ref xBag, .ref xBld, .ref xAng, .ref xSum, .ref xPik, .int 0, .ref xHan, .ref xIns, .ref xShr, .ref xSta, .ref xTur])), (xSum, .inr (8, [.ref sM, .ref sP, .ref sA, .int 0])), (hH, .inl (cI, 7, (.inl (upd (upd (upd (fun _ => 0) (0 : Int32).toNatClampNeg 1) (0 : Int32).toNatClampNeg 2) (0 : Int32).toNatClampNeg 3)))), (hT, .inl (cJ, 7, (.inr (.inl (vp_updL (vp_updL (vp_updL (fun _ => 0) (0 : Int32).toNatClampNeg 1) (0 : Int32).toNatClampNeg 1) (0 : Int32).toNatClampNeg 1))))), (xHan, .inr (3, [.int 0, .int 3, .int 1, .ref hH, .ref hR, .ref hT, .ref hM])), (hM, .inl (cJ, 6, (.inr (.inl (vp_updL (fun _ => 0) (0 : Int32).toNatClampNeg 1)))))] := hD
        have hr_27 := hw
        obtain rfl : r_27 = 2 := hr_27
        have hPc := hP.sub (ws' := [(xHan, .inr (3, [.int 0, .int 3, .int 1, .ref hH, .ref hR, .ref hT, .ref hM])), (hM, .inl (cJ, 6, (.inr (.inl (vp_updL (fun _ => 0) (0 : Int32).toNatClampNeg 1)))))]) [4, 5] rfl
        have hDc := hD.sub (ws' := [(xHan, .inr (3, [.int 0, .int 3, .int 1, .ref hH, .ref hR, .ref hT, .ref hM])), (hM, .inl (cJ, 6, (.inr (.inl (vp_updL (fun _ => 0) (0 : Int32).toNatClampNeg 1)))))]) [4, 5] (by decide) rfl
        have hFc := va_free (wc := [(xHan, .inr (3, [.int 0, .int 3, .int 1, .ref hH, .ref hR, .ref hT, .ref hM])), (hM, .inl (cJ, 6, (.inr (.inl (vp_updL (fun _ => 0) (0 : Int32).toNatClampNeg 1)))))]) hD hS hA [4, 5] rfl
        refine va_calli (va_runV (As := [.int 2]) (rest := []) ⟨hx, hb, hml, hown, hts⟩ (c_X3_timesOf_t3_2 l dC dI cB cI cJ H.size xHan hH hR hT hM) (cwV 1 hts gX10_relationOf_X3_timesOf rfl rfl rfl (by decide +kernel) ⟨Nat.le_of_ble_eq_true rfl, Nat.le_of_ble_eq_true rfl⟩) ⟨fun a U g mk q => by obtain ⟨q0, q1, qP, qK, qD⟩ := q; exact ⟨q0, q1, qP, va_K.moved (u := U) (U := U.calling g mk a) (Vm.Alike.refl U.vm) qK, qD⟩, va_recv hK hP (ci := 3) (q0 := 4) rfl rfl, fun U hU hW => ⟨rfl, by rw [hU], by rw [hU]; exact hPc, va_K.moved hW.alike hK, hDc.weaken (fun _ _ _ _ => trivial)⟩⟩ rfl rfl hl.1 rfl (lv_room (Nat.le_of_ble_eq_true rfl)) dX10_relationOf_59 ⟨Nat.le_of_ble_eq_true rfl, Nat.le_of_ble_eq_true rfl⟩) hS (fun q _ h => hFc q h) hFc (fun r_28 u t H1 locs ht hvm hw hB hz1 hk1 hS => ?_)
        have hP1 : va_P (dC, dI) vwCl [] H1 := fun k q h => by simp at h
        have hD1 : va_D (va_A [(xHan, .inr (3, [.int 0, .int 3, .int 1, .ref hH, .ref hR, .ref hT, .ref hM])), (hM, .inl (cJ, 6, (.inr (.inl (vp_updL (fun _ => 0) (0 : Int32).toNatClampNeg 1)))))] H.size) [] := ⟨fun i j p q h => by simp at h, fun k q h => by simp at h⟩
        obtain ⟨hP, hD⟩ := va_join (wr := [(x0, .inr (10, [.ref xTape, .ref xReader, .ref xBag, .ref xBld, .ref xAng, .ref xSum, .ref xPik, .int 0, .ref xHan, .ref xIns, .ref xShr, .ref xSta, .ref xTur])), (xSum, .inr (8, [.ref sM, .ref sP, .ref sA, .int 0])), (hH, .inl (cI, 7, (.inl (upd (upd (upd (fun _ => 0) (0 : Int32).toNatClampNeg 1) (0 : Int32).toNatClampNeg 2) (0 : Int32).toNatClampNeg 3)))), (hT, .inl (cJ, 7, (.inr (.inl (vp_updL (vp_updL (vp_updL (fun _ => 0) (0 : Int32).toNatClampNeg 1) (0 : Int32).toNatClampNeg 1) (0 : Int32).toNatClampNeg 1)))))]) (w1 := []) hP hD [4, 5] [0, 1, 2, 3] rfl rfl (by decide) (by decide) hk1 hFc hP1 hD1
        generalize H1 = H at hP hS ⊢
        have hP : va_P (dC, dI) vwCl [(x0, .inr (10, [.ref xTape, .ref xReader, .ref xBag, .ref xBld, .ref xAng, .ref xSum, .ref xPik, .int 0, .ref xHan, .ref xIns, .ref xShr, .ref xSta, .ref xTur])), (xSum, .inr (8, [.ref sM, .ref sP, .ref sA, .int 0])), (hH, .inl (cI, 7, (.inl (upd (upd (upd (fun _ => 0) (0 : Int32).toNatClampNeg 1) (0 : Int32).toNatClampNeg 2) (0 : Int32).toNatClampNeg 3)))), (hT, .inl (cJ, 7, (.inr (.inl (vp_updL (vp_updL (vp_updL (fun _ => 0) (0 : Int32).toNatClampNeg 1) (0 : Int32).toNatClampNeg 1) (0 : Int32).toNatClampNeg 1)))))] H := hP
        have hD : va_D A [(x0, .inr (10, [.ref xTape, .ref xReader, .ref xBag, .ref xBld, .ref xAng, .ref xSum, .ref xPik, .int 0, .ref xHan, .ref xIns, .ref xShr, .ref xSta, .ref xTur])), (xSum, .inr (8, [.ref sM, .ref sP, .ref sA, .int 0])), (hH, .inl (cI, 7, (.inl (upd (upd (upd (fun _ => 0) (0 : Int32).toNatClampNeg 1) (0 : Int32).toNatClampNeg 2) (0 : Int32).toNatClampNeg 3)))), (hT, .inl (cJ, 7, (.inr (.inl (vp_updL (vp_updL (vp_updL (fun _ => 0) (0 : Int32).toNatClampNeg 1) (0 : Int32).toNatClampNeg 1) (0 : Int32).toNatClampNeg 1)))))] := hD
        have hr_28 := hw
        obtain rfl : r_28 = 0 := hr_28
        refine W.widen (k := 0) (n := 0) (Nat.le_of_ble_eq_true rfl) (Nat.le_of_ble_eq_true rfl) ?_
        exact W.iret (v := 0) hx hb hr (fun t ht hW => ⟨⟨0, (), rfl, (by decide), trivial⟩, hS.F ht⟩) hS.2.2 dX10_relationOf_62
set_option maxHeartbeats 4000000 in
set_option maxRecDepth 100000 in
theorem c_X10_relationOf_15 (l : Launch) (dC : Nat → ClassId) (dI : Nat → Nat → Nat) (cB cI cJ : ClassId) (sz : Nat) (x0 xTape xReader xBag xBld xAng xSum xPik xHan xIns xShr xSta xTur sM sP sA hH hR hT hM : Nat) (p1 : Int32) : Met l yX10_relationOf wsX10_relationOf ({ frames := 12, cells := 0, slots := 0, locals := 400 }) (va_Pc [.ref x0, .int 15, .int p1] (fun U => U.heap.size = sz ∧ va_P (dC, dI) vwCl [(x0, .inr (10, [.ref xTape, .ref xReader, .ref xBag, .ref xBld, .ref xAng, .ref xSum, .ref xPik, .int 0, .ref xHan, .ref xIns, .ref xShr, .ref xSta, .ref xTur])), (xSum, .inr (8, [.ref sM, .ref sP, .ref sA, .int 0])), (xHan, .inr (3, [.int 0, .int 0, .int 0, .ref hH, .ref hR, .ref hT, .ref hM])), (hH, .inl (cI, 7, (.inl (fun _ => 0)))), (hT, .inl (cJ, 7, (.inr (.inl (fun _ => 0))))), (hM, .inl (cJ, 6, (.inr (.inl (fun _ => 0)))))] U.heap ∧ va_K (dC, dI) vwCl [(cB, .byte), (cI, .int), (cJ, .long)] U ∧ va_D (fun _ => True) [(x0, .inr (10, [.ref xTape, .ref xReader, .ref xBag, .ref xBld, .ref xAng, .ref xSum, .ref xPik, .int 0, .ref xHan, .ref xIns, .ref xShr, .ref xSta, .ref xTur])), (xSum, .inr (8, [.ref sM, .ref sP, .ref sA, .int 0])), (xHan, .inr (3, [.int 0, .int 0, .int 0, .ref hH, .ref hR, .ref hT, .ref hM])), (hH, .inl (cI, 7, (.inl (fun _ => 0)))), (hT, .inl (cJ, 7, (.inr (.inl (fun _ => 0))))), (hM, .inl (cJ, 6, (.inr (.inl (fun _ => 0)))))] ∧ va_Nw (.methodLinkNest RX3 62 yX10_gcd "ScissorsTable") U)) (va_Qi (fun (r : Int32) (_ : Unit) => r = sp_rel 15 p1) (fun _ _ => True) (va_A [(x0, .inr (10, [.ref xTape, .ref xReader, .ref xBag, .ref xBld, .ref xAng, .ref xSum, .ref xPik, .int 0, .ref xHan, .ref xIns, .ref xShr, .ref xSta, .ref xTur])), (xSum, .inr (8, [.ref sM, .ref sP, .ref sA, .int 0])), (xHan, .inr (3, [.int 0, .int 0, .int 0, .ref hH, .ref hR, .ref hT, .ref hM])), (hH, .inl (cI, 7, (.inl (fun _ => 0)))), (hT, .inl (cJ, 7, (.inr (.inl (fun _ => 0))))), (hM, .inl (cJ, 6, (.inr (.inl (fun _ => 0)))))] sz)) 0 0 (va_A [(x0, .inr (10, [.ref xTape, .ref xReader, .ref xBag, .ref xBld, .ref xAng, .ref xSum, .ref xPik, .int 0, .ref xHan, .ref xIns, .ref xShr, .ref xSta, .ref xTur])), (xSum, .inr (8, [.ref sM, .ref sP, .ref sA, .int 0])), (xHan, .inr (3, [.int 0, .int 0, .int 0, .ref hH, .ref hR, .ref hT, .ref hM])), (hH, .inl (cI, 7, (.inl (fun _ => 0)))), (hT, .inl (cJ, 7, (.inr (.inl (fun _ => 0))))), (hM, .inl (cJ, 6, (.inr (.inl (fun _ => 0)))))] sz) := by
  refine Met.ofW (cc := cX10_relationOf) (maxL := 3) (ret := (some .int)) (by decide) rfl ?_
  intro p e s m args below meth c s₁ B hml hv
  obtain ⟨rfl, hsz, hP, hK, hD0, hN0⟩ := hv
  have hx := B.exec
  have hb := B.bytes
  have hr := B.returns
  have hts := atoms_spec (ws := wsX10_relationOf) B.pre
  have hown : s.vm.findClass RX10 = some m.cls := findClass_of_methodNamed B.named
  have hlocks := B.notSynchronized
  have hiX10 : ∀ w ∈ u_ws RX10 TX10 13, w ∈ wsX10_relationOf := by decide +kernel
  subst hsz
  have hD := hD0.self (sz := s.heap.size)
  generalize hAe : va_A [(x0, .inr (10, [.ref xTape, .ref xReader, .ref xBag, .ref xBld, .ref xAng, .ref xSum, .ref xPik, .int 0, .ref xHan, .ref xIns, .ref xShr, .ref xSta, .ref xTur])), (xSum, .inr (8, [.ref sM, .ref sP, .ref sA, .int 0])), (xHan, .inr (3, [.int 0, .int 0, .int 0, .ref hH, .ref hR, .ref hT, .ref hM])), (hH, .inl (cI, 7, (.inl (fun _ => 0)))), (hT, .inl (cJ, 7, (.inr (.inl (fun _ => 0))))), (hM, .inl (cJ, 6, (.inr (.inl (fun _ => 0)))))] s.heap.size = A at hD ⊢
  have hA : ∀ q : Nat, s.heap.size ≤ q → A q := fun q h => by rw [← hAe]; exact Or.inr h
  have hS : va_S A s.heap s.heap [] := va_S.rf
  have hP : va_P (dC, dI) vwCl [(x0, .inr (10, [.ref xTape, .ref xReader, .ref xBag, .ref xBld, .ref xAng, .ref xSum, .ref xPik, .int 0, .ref xHan, .ref xIns, .ref xShr, .ref xSta, .ref xTur])), (xSum, .inr (8, [.ref sM, .ref sP, .ref sA, .int 0])), (xHan, .inr (3, [.int 0, .int 0, .int 0, .ref hH, .ref hR, .ref hT, .ref hM])), (hH, .inl (cI, 7, (.inl (fun _ => 0)))), (hT, .inl (cJ, 7, (.inr (.inl (fun _ => 0))))), (hM, .inl (cJ, 6, (.inr (.inl (fun _ => 0)))))] s.heap := hP
  have hl := lv_entry ([.ref x0, .int 15, .int p1]) (n := 3) (Nat.le_of_ble_eq_true rfl)
  rw [lg_entry_eq]
  generalize (lg_sl ([.ref x0, .int 15, .int p1]) ++ List.replicate (3 - (lg_sl ([.ref x0, .int 15, .int p1])).length) Slot.unset).toArray = ls at hl ⊢
  have hl : lv_has ls 3 [(0, .ref x0), (1, .int 15), (2, .int p1)] := hl
  refine lv_iload_n hx hb dX10_relationOf_0 rfl (lv_at hl 1 rfl) ?_
  have hPc := hP.sub (ws' := []) [] rfl
  have hDc := hD.sub (ws' := []) [] (by decide) rfl
  have hFc := va_free (wc := []) hD hS hA [] rfl
  refine va_calli (va_runS (As := [.int 15]) (rest := []) ⟨hx, hb, hml, hown, hts⟩ (c_X10_isSetOfSolids l dC dI cB cI cJ s.heap.size 15) (va_cwS 1 hts gX10_relationOf_X10_isSetOfSolids rfl rfl rfl (by decide +kernel) ⟨Nat.le_of_ble_eq_true rfl, Nat.le_of_ble_eq_true rfl⟩) ⟨fun a U g mk q => by obtain ⟨q0, q1, qP, qK, qD⟩ := q; exact ⟨q0, q1, qP, va_K.moved (u := U) (U := U.calling g mk a) (Vm.Alike.refl U.vm) qK, qD⟩, fun U hU hW => ⟨rfl, by rw [hU], by rw [hU]; exact hPc, va_K.moved hW.alike hK, hDc.weaken (fun _ _ _ _ => trivial)⟩⟩ rfl rfl hl.1 rfl (lv_room (Nat.le_of_ble_eq_true rfl)) dX10_relationOf_1 ⟨Nat.le_of_ble_eq_true rfl, Nat.le_of_ble_eq_true rfl⟩) hS (fun q _ h => hFc q h) hFc (fun r_1 u t H1 locs ht hvm hw hB hz1 hk1 hS => ?_)
  have hP1 : va_P (dC, dI) vwCl [] H1 := fun k q h => by simp at h
  have hD1 : va_D (va_A [] s.heap.size) [] := ⟨fun i j p q h => by simp at h, fun k q h => by simp at h⟩
  obtain ⟨hP, hD⟩ := va_join (wr := [(x0, .inr (10, [.ref xTape, .ref xReader, .ref xBag, .ref xBld, .ref xAng, .ref xSum, .ref xPik, .int 0, .ref xHan, .ref xIns, .ref xShr, .ref xSta, .ref xTur])), (xSum, .inr (8, [.ref sM, .ref sP, .ref sA, .int 0])), (xHan, .inr (3, [.int 0, .int 0, .int 0, .ref hH, .ref hR, .ref hT, .ref hM])), (hH, .inl (cI, 7, (.inl (fun _ => 0)))), (hT, .inl (cJ, 7, (.inr (.inl (fun _ => 0))))), (hM, .inl (cJ, 6, (.inr (.inl (fun _ => 0)))))]) (w1 := []) hP hD [] [0, 1, 2, 3, 4, 5] rfl rfl (by decide) (by decide) hk1 hFc hP1 hD1
  generalize H1 = H at hP hS ⊢
  have hP : va_P (dC, dI) vwCl [(x0, .inr (10, [.ref xTape, .ref xReader, .ref xBag, .ref xBld, .ref xAng, .ref xSum, .ref xPik, .int 0, .ref xHan, .ref xIns, .ref xShr, .ref xSta, .ref xTur])), (xSum, .inr (8, [.ref sM, .ref sP, .ref sA, .int 0])), (xHan, .inr (3, [.int 0, .int 0, .int 0, .ref hH, .ref hR, .ref hT, .ref hM])), (hH, .inl (cI, 7, (.inl (fun _ => 0)))), (hT, .inl (cJ, 7, (.inr (.inl (fun _ => 0))))), (hM, .inl (cJ, 6, (.inr (.inl (fun _ => 0)))))] H := hP
  have hD : va_D A [(x0, .inr (10, [.ref xTape, .ref xReader, .ref xBag, .ref xBld, .ref xAng, .ref xSum, .ref xPik, .int 0, .ref xHan, .ref xIns, .ref xShr, .ref xSta, .ref xTur])), (xSum, .inr (8, [.ref sM, .ref sP, .ref sA, .int 0])), (xHan, .inr (3, [.int 0, .int 0, .int 0, .ref hH, .ref hR, .ref hT, .ref hM])), (hH, .inl (cI, 7, (.inl (fun _ => 0)))), (hT, .inl (cJ, 7, (.inr (.inl (fun _ => 0))))), (hM, .inl (cJ, 6, (.inr (.inl (fun _ => 0)))))] := hD
  rcases hw with ⟨rfl, k_2⟩ | ⟨rfl, k_2⟩
  · refine lv_if_eq (tgt := 14) hx hb dX10_relationOf_4 (by decide) (fun _ => ?_) (fun c => absurd (by decide) c)
    refine lv_ldc (v := (-1000000)) hx hb hown (hts (.constant RX10 140 (-1000000)) (by decide +kernel)) dX10_relationOf_14 ?_
    refine W.widen (k := 0) (n := 0) (Nat.le_of_ble_eq_true rfl) (Nat.le_of_ble_eq_true rfl) ?_
    exact W.iret (v := (-1000000)) hx hb hr (fun t ht hW => ⟨⟨(-1000000), (), rfl, (absurd (by decide) k_2), trivial⟩, hS.F ht⟩) hS.2.2 dX10_relationOf_16
  · refine lv_if_eq (tgt := 14) hx hb dX10_relationOf_4 (by decide) (fun c => absurd c (by decide)) (fun _ => ?_)
    refine lv_iload_n hx hb dX10_relationOf_7 rfl (lv_at hl 2 rfl) ?_
    have hPc := hP.sub (ws' := []) [] rfl
    have hDc := hD.sub (ws' := []) [] (by decide) rfl
    have hFc := va_free (wc := []) hD hS hA [] rfl
    refine va_calli (va_runS (As := [.int p1]) (rest := []) ⟨hx, hb, hml, hown, hts⟩ (c_X10_isSolid l dC dI cB cI cJ H.size p1) (va_cwS 1 hts gX10_relationOf_X10_isSolid rfl rfl rfl (by decide +kernel) ⟨Nat.le_of_ble_eq_true rfl, Nat.le_of_ble_eq_true rfl⟩) ⟨fun a U g mk q => by obtain ⟨q0, q1, qP, qK, qD⟩ := q; exact ⟨q0, q1, qP, va_K.moved (u := U) (U := U.calling g mk a) (Vm.Alike.refl U.vm) qK, qD⟩, fun U hU hW => ⟨rfl, by rw [hU], by rw [hU]; exact hPc, va_K.moved hW.alike hK, hDc.weaken (fun _ _ _ _ => trivial)⟩⟩ rfl rfl hl.1 rfl (lv_room (Nat.le_of_ble_eq_true rfl)) dX10_relationOf_8 ⟨Nat.le_of_ble_eq_true rfl, Nat.le_of_ble_eq_true rfl⟩) hS (fun q _ h => hFc q h) hFc (fun r_3 u t H1 locs ht hvm hw hB hz1 hk1 hS => ?_)
    have hP1 : va_P (dC, dI) vwCl [] H1 := fun k q h => by simp at h
    have hD1 : va_D (va_A [] H.size) [] := ⟨fun i j p q h => by simp at h, fun k q h => by simp at h⟩
    obtain ⟨hP, hD⟩ := va_join (wr := [(x0, .inr (10, [.ref xTape, .ref xReader, .ref xBag, .ref xBld, .ref xAng, .ref xSum, .ref xPik, .int 0, .ref xHan, .ref xIns, .ref xShr, .ref xSta, .ref xTur])), (xSum, .inr (8, [.ref sM, .ref sP, .ref sA, .int 0])), (xHan, .inr (3, [.int 0, .int 0, .int 0, .ref hH, .ref hR, .ref hT, .ref hM])), (hH, .inl (cI, 7, (.inl (fun _ => 0)))), (hT, .inl (cJ, 7, (.inr (.inl (fun _ => 0))))), (hM, .inl (cJ, 6, (.inr (.inl (fun _ => 0)))))]) (w1 := []) hP hD [] [0, 1, 2, 3, 4, 5] rfl rfl (by decide) (by decide) hk1 hFc hP1 hD1
    generalize H1 = H at hP hS ⊢
    have hP : va_P (dC, dI) vwCl [(x0, .inr (10, [.ref xTape, .ref xReader, .ref xBag, .ref xBld, .ref xAng, .ref xSum, .ref xPik, .int 0, .ref xHan, .ref xIns, .ref xShr, .ref xSta, .ref xTur])), (xSum, .inr (8, [.ref sM, .ref sP, .ref sA, .int 0])), (xHan, .inr (3, [.int 0, .int 0, .int 0, .ref hH, .ref hR, .ref hT, .ref hM])), (hH, .inl (cI, 7, (.inl (fun _ => 0)))), (hT, .inl (cJ, 7, (.inr (.inl (fun _ => 0))))), (hM, .inl (cJ, 6, (.inr (.inl (fun _ => 0)))))] H := hP
    have hD : va_D A [(x0, .inr (10, [.ref xTape, .ref xReader, .ref xBag, .ref xBld, .ref xAng, .ref xSum, .ref xPik, .int 0, .ref xHan, .ref xIns, .ref xShr, .ref xSta, .ref xTur])), (xSum, .inr (8, [.ref sM, .ref sP, .ref sA, .int 0])), (xHan, .inr (3, [.int 0, .int 0, .int 0, .ref hH, .ref hR, .ref hT, .ref hM])), (hH, .inl (cI, 7, (.inl (fun _ => 0)))), (hT, .inl (cJ, 7, (.inr (.inl (fun _ => 0))))), (hM, .inl (cJ, 6, (.inr (.inl (fun _ => 0)))))] := hD
    rcases hw with ⟨rfl, k_4⟩ | ⟨rfl, k_4⟩
    · refine lv_if_ne (tgt := 17) hx hb dX10_relationOf_11 (by decide) (fun c => absurd (by decide) c) (fun _ => ?_)
      refine lv_ldc (v := (-1000000)) hx hb hown (hts (.constant RX10 140 (-1000000)) (by decide +kernel)) dX10_relationOf_14 ?_
      refine W.widen (k := 0) (n := 0) (Nat.le_of_ble_eq_true rfl) (Nat.le_of_ble_eq_true rfl) ?_
      exact W.iret (v := (-1000000)) hx hb hr (fun t ht hW => ⟨⟨(-1000000), (), rfl, (show (-1000000 : Int32) = sp_rel 15 p1 from (by unfold sp_rel; rw [if_neg (fun h9 => k_4 h9.2)])), trivial⟩, hS.F ht⟩) hS.2.2 dX10_relationOf_16
    · refine lv_if_ne (tgt := 17) hx hb dX10_relationOf_11 (by decide) (fun _ => ?_) (fun c => absurd c (by decide))
      refine lv_aload_n hx hb dX10_relationOf_17 rfl (lv_at hl 0 rfl) ?_
      refine lv_iload_n hx hb dX10_relationOf_18 rfl (lv_at hl 1 rfl) ?_
      have hPc := hP.sub (ws' := [(x0, .inr (10, [.ref xTape, .ref xReader, .ref xBag, .ref xBld, .ref xAng, .ref xSum, .ref xPik, .int 0, .ref xHan, .ref xIns, .ref xShr, .ref xSta, .ref xTur])), (xSum, .inr (8, [.ref sM, .ref sP, .ref sA, .int 0])), (xHan, .inr (3, [.int 0, .int 0, .int 0, .ref hH, .ref hR, .ref hT, .ref hM])), (hH, .inl (cI, 7, (.inl (fun _ => 0)))), (hT, .inl (cJ, 7, (.inr (.inl (fun _ => 0))))), (hM, .inl (cJ, 6, (.inr (.inl (fun _ => 0)))))]) [0, 1, 2, 3, 4, 5] rfl
      have hDc := hD.sub (ws' := [(x0, .inr (10, [.ref xTape, .ref xReader, .ref xBag, .ref xBld, .ref xAng, .ref xSum, .ref xPik, .int 0, .ref xHan, .ref xIns, .ref xShr, .ref xSta, .ref xTur])), (xSum, .inr (8, [.ref sM, .ref sP, .ref sA, .int 0])), (xHan, .inr (3, [.int 0, .int 0, .int 0, .ref hH, .ref hR, .ref hT, .ref hM])), (hH, .inl (cI, 7, (.inl (fun _ => 0)))), (hT, .inl (cJ, 7, (.inr (.inl (fun _ => 0))))), (hM, .inl (cJ, 6, (.inr (.inl (fun _ => 0)))))]) [0, 1, 2, 3, 4, 5] (by decide) rfl
      have hFc := va_free (wc := [(x0, .inr (10, [.ref xTape, .ref xReader, .ref xBag, .ref xBld, .ref xAng, .ref xSum, .ref xPik, .int 0, .ref xHan, .ref xIns, .ref xShr, .ref xSta, .ref xTur])), (xSum, .inr (8, [.ref sM, .ref sP, .ref sA, .int 0])), (xHan, .inr (3, [.int 0, .int 0, .int 0, .ref hH, .ref hR, .ref hT, .ref hM])), (hH, .inl (cI, 7, (.inl (fun _ => 0)))), (hT, .inl (cJ, 7, (.inr (.inl (fun _ => 0))))), (hM, .inl (cJ, 6, (.inr (.inl (fun _ => 0)))))]) hD hS hA [0, 1, 2, 3, 4, 5] rfl
      refine va_callv (va_runV (As := [.int 15]) (rest := []) ⟨hx, hb, hml, hown, hts⟩ (c_X10_hangSolids_15 l dC dI cB cI cJ H.size x0 xTape xReader xBag xBld xAng xSum xPik xHan xIns xShr xSta xTur sM sP sA hH hR hT hM (fun _ => 0) (fun _ => 0)) (cwV 1 hts gX10_relationOf_X10_hangSolids rfl rfl rfl (by decide +kernel) ⟨Nat.le_of_ble_eq_true rfl, Nat.le_of_ble_eq_true rfl⟩) ⟨fun a U g mk q => by obtain ⟨q0, q1, qP, qK, qD, qN0⟩ := q; exact ⟨q0, q1, qP, va_K.moved (u := U) (U := U.calling g mk a) (Vm.Alike.refl U.vm) qK, qD, va_Nw.same rfl rfl qN0⟩, va_recv hK hP (ci := 10) (q0 := 0) rfl rfl, fun U hU hW => ⟨rfl, by rw [hU], by rw [hU]; exact hPc, va_K.moved hW.alike hK, hDc.weaken (fun _ _ _ _ => trivial), va_Nw.warmM hW hN0⟩⟩ rfl rfl hl.1 rfl (lv_room (Nat.le_of_ble_eq_true rfl)) dX10_relationOf_19 ⟨Nat.le_of_ble_eq_true rfl, Nat.le_of_ble_eq_true rfl⟩) hS (fun q _ h => hFc q h) hFc (fun u t H1 locs ht hvm hw hB hz1 hk1 hS => ?_)
      obtain ⟨hP1, hK1, hD1⟩ := hB
      rw [ht] at hP1
      obtain ⟨hP, hD⟩ := va_join (wr := []) (w1 := [(x0, .inr (10, [.ref xTape, .ref xReader, .ref xBag, .ref xBld, .ref xAng, .ref xSum, .ref xPik, .int 0, .ref xHan, .ref xIns, .ref xShr, .ref xSta, .ref xTur])), (xHan, .inr (3, [.int 0, .int 4, .int 1, .ref hH, .ref hR, .ref hT, .ref hM])), (xSum, .inr (8, [.ref sM, .ref sP, .ref sA, .int 0])), (hH, .inl (cI, 7, (.inl (upd (upd (upd (upd (fun _ => 0) (0 : Int32).toNatClampNeg 0) (0 : Int32).toNatClampNeg 1) (0 : Int32).toNatClampNeg 2) (0 : Int32).toNatClampNeg 3)))), (hT, .inl (cJ, 7, (.inr (.inl (vp_updL (vp_updL (vp_updL (vp_updL (fun _ => 0) (0 : Int32).toNatClampNeg 1) (0 : Int32).toNatClampNeg 1) (0 : Int32).toNatClampNeg 1) (0 : Int32).toNatClampNeg 1))))), (hM, .inl (cJ, 6, (.inr (.inl (vp_updL (fun _ => 0) (0 : Int32).toNatClampNeg 1)))))]) hP hD [0, 1, 2, 3, 4, 5] [] rfl rfl (by decide) (by decide) hk1 hFc hP1 hD1
      generalize H1 = H at hP hS ⊢
      have hP : va_P (dC, dI) vwCl [(x0, .inr (10, [.ref xTape, .ref xReader, .ref xBag, .ref xBld, .ref xAng, .ref xSum, .ref xPik, .int 0, .ref xHan, .ref xIns, .ref xShr, .ref xSta, .ref xTur])), (xHan, .inr (3, [.int 0, .int 4, .int 1, .ref hH, .ref hR, .ref hT, .ref hM])), (xSum, .inr (8, [.ref sM, .ref sP, .ref sA, .int 0])), (hH, .inl (cI, 7, (.inl (upd (upd (upd (upd (fun _ => 0) (0 : Int32).toNatClampNeg 0) (0 : Int32).toNatClampNeg 1) (0 : Int32).toNatClampNeg 2) (0 : Int32).toNatClampNeg 3)))), (hT, .inl (cJ, 7, (.inr (.inl (vp_updL (vp_updL (vp_updL (vp_updL (fun _ => 0) (0 : Int32).toNatClampNeg 1) (0 : Int32).toNatClampNeg 1) (0 : Int32).toNatClampNeg 1) (0 : Int32).toNatClampNeg 1))))), (hM, .inl (cJ, 6, (.inr (.inl (vp_updL (fun _ => 0) (0 : Int32).toNatClampNeg 1)))))] H := hP
      have hD : va_D A [(x0, .inr (10, [.ref xTape, .ref xReader, .ref xBag, .ref xBld, .ref xAng, .ref xSum, .ref xPik, .int 0, .ref xHan, .ref xIns, .ref xShr, .ref xSta, .ref xTur])), (xHan, .inr (3, [.int 0, .int 4, .int 1, .ref hH, .ref hR, .ref hT, .ref hM])), (xSum, .inr (8, [.ref sM, .ref sP, .ref sA, .int 0])), (hH, .inl (cI, 7, (.inl (upd (upd (upd (upd (fun _ => 0) (0 : Int32).toNatClampNeg 0) (0 : Int32).toNatClampNeg 1) (0 : Int32).toNatClampNeg 2) (0 : Int32).toNatClampNeg 3)))), (hT, .inl (cJ, 7, (.inr (.inl (vp_updL (vp_updL (vp_updL (vp_updL (fun _ => 0) (0 : Int32).toNatClampNeg 1) (0 : Int32).toNatClampNeg 1) (0 : Int32).toNatClampNeg 1) (0 : Int32).toNatClampNeg 1))))), (hM, .inl (cJ, 6, (.inr (.inl (vp_updL (fun _ => 0) (0 : Int32).toNatClampNeg 1)))))] := hD
      refine lv_aload_n hx hb dX10_relationOf_22 rfl (lv_at hl 0 rfl) ?_
      refine va_get (D := (dC, dI)) (ci := 10) (v := .ref xHan) (C := RX10) (T := TX10) (N := 13) hx hb hts hiX10 hown hK hP 0 rfl rfl 8 (by decide) (hts (.fieldLink RX10 61 "ScissorsTable" "hang" "LScissorsTable$Hang;") (by decide +kernel)) (fun _ h9 => h9) rfl dX10_relationOf_23 ?_
      have hPc := hP.sub (ws' := [(xHan, .inr (3, [.int 0, .int 4, .int 1, .ref hH, .ref hR, .ref hT, .ref hM])), (hM, .inl (cJ, 6, (.inr (.inl (vp_updL (fun _ => 0) (0 : Int32).toNatClampNeg 1)))))]) [1, 5] rfl
      have hDc := hD.sub (ws' := [(xHan, .inr (3, [.int 0, .int 4, .int 1, .ref hH, .ref hR, .ref hT, .ref hM])), (hM, .inl (cJ, 6, (.inr (.inl (vp_updL (fun _ => 0) (0 : Int32).toNatClampNeg 1)))))]) [1, 5] (by decide) rfl
      have hFc := va_free (wc := [(xHan, .inr (3, [.int 0, .int 4, .int 1, .ref hH, .ref hR, .ref hT, .ref hM])), (hM, .inl (cJ, 6, (.inr (.inl (vp_updL (fun _ => 0) (0 : Int32).toNatClampNeg 1)))))]) hD hS hA [1, 5] rfl
      refine va_calli (va_runV (As := []) (rest := []) ⟨hx, hb, hml, hown, hts⟩ (c_X3_canTell_t4 l dC dI cB cI cJ H.size xHan hH hR hT hM) (cwV 0 hts gX10_relationOf_X3_canTell rfl rfl rfl (by decide +kernel) ⟨Nat.le_of_ble_eq_true rfl, Nat.le_of_ble_eq_true rfl⟩) ⟨fun a U g mk q => by obtain ⟨q0, q1, qP, qK, qD⟩ := q; exact ⟨q0, q1, qP, va_K.moved (u := U) (U := U.calling g mk a) (Vm.Alike.refl U.vm) qK, qD⟩, va_recv hK hP (ci := 3) (q0 := 1) rfl rfl, fun U hU hW => ⟨rfl, by rw [hU], by rw [hU]; exact hPc, va_K.moved hW.alike hK, hDc.weaken (fun _ _ _ _ => trivial)⟩⟩ rfl rfl hl.1 rfl (lv_room (Nat.le_of_ble_eq_true rfl)) dX10_relationOf_26 ⟨Nat.le_of_ble_eq_true rfl, Nat.le_of_ble_eq_true rfl⟩) hS (fun q _ h => hFc q h) hFc (fun r_5 u t H1 locs ht hvm hw hB hz1 hk1 hS => ?_)
      obtain ⟨hP1, hK1, hD1⟩ := hB
      rw [ht] at hP1
      obtain ⟨hP, hD⟩ := va_join (wr := [(x0, .inr (10, [.ref xTape, .ref xReader, .ref xBag, .ref xBld, .ref xAng, .ref xSum, .ref xPik, .int 0, .ref xHan, .ref xIns, .ref xShr, .ref xSta, .ref xTur])), (xSum, .inr (8, [.ref sM, .ref sP, .ref sA, .int 0])), (hH, .inl (cI, 7, (.inl (upd (upd (upd (upd (fun _ => 0) (0 : Int32).toNatClampNeg 0) (0 : Int32).toNatClampNeg 1) (0 : Int32).toNatClampNeg 2) (0 : Int32).toNatClampNeg 3)))), (hT, .inl (cJ, 7, (.inr (.inl (vp_updL (vp_updL (vp_updL (vp_updL (fun _ => 0) (0 : Int32).toNatClampNeg 1) (0 : Int32).toNatClampNeg 1) (0 : Int32).toNatClampNeg 1) (0 : Int32).toNatClampNeg 1)))))]) (w1 := [(xHan, .inr (3, [.int 0, .int 4, .int 1, .ref hH, .ref hR, .ref hT, .ref hM])), (hM, .inl (cJ, 6, (.inr (.inl (vp_updL (fun _ => 0) (0 : Int32).toNatClampNeg 1)))))]) hP hD [1, 5] [0, 2, 3, 4] rfl rfl (by decide) (by decide) hk1 hFc hP1 hD1
      generalize H1 = H at hP hS ⊢
      have hP : va_P (dC, dI) vwCl [(x0, .inr (10, [.ref xTape, .ref xReader, .ref xBag, .ref xBld, .ref xAng, .ref xSum, .ref xPik, .int 0, .ref xHan, .ref xIns, .ref xShr, .ref xSta, .ref xTur])), (xSum, .inr (8, [.ref sM, .ref sP, .ref sA, .int 0])), (hH, .inl (cI, 7, (.inl (upd (upd (upd (upd (fun _ => 0) (0 : Int32).toNatClampNeg 0) (0 : Int32).toNatClampNeg 1) (0 : Int32).toNatClampNeg 2) (0 : Int32).toNatClampNeg 3)))), (hT, .inl (cJ, 7, (.inr (.inl (vp_updL (vp_updL (vp_updL (vp_updL (fun _ => 0) (0 : Int32).toNatClampNeg 1) (0 : Int32).toNatClampNeg 1) (0 : Int32).toNatClampNeg 1) (0 : Int32).toNatClampNeg 1))))), (xHan, .inr (3, [.int 0, .int 4, .int 1, .ref hH, .ref hR, .ref hT, .ref hM])), (hM, .inl (cJ, 6, (.inr (.inl (vp_updL (fun _ => 0) (0 : Int32).toNatClampNeg 1)))))] H := hP
      have hD : va_D A [(x0, .inr (10, [.ref xTape, .ref xReader, .ref xBag, .ref xBld, .ref xAng, .ref xSum, .ref xPik, .int 0, .ref xHan, .ref xIns, .ref xShr, .ref xSta, .ref xTur])), (xSum, .inr (8, [.ref sM, .ref sP, .ref sA, .int 0])), (hH, .inl (cI, 7, (.inl (upd (upd (upd (upd (fun _ => 0) (0 : Int32).toNatClampNeg 0) (0 : Int32).toNatClampNeg 1) (0 : Int32).toNatClampNeg 2) (0 : Int32).toNatClampNeg 3)))), (hT, .inl (cJ, 7, (.inr (.inl (vp_updL (vp_updL (vp_updL (vp_updL (fun _ => 0) (0 : Int32).toNatClampNeg 1) (0 : Int32).toNatClampNeg 1) (0 : Int32).toNatClampNeg 1) (0 : Int32).toNatClampNeg 1))))), (xHan, .inr (3, [.int 0, .int 4, .int 1, .ref hH, .ref hR, .ref hT, .ref hM])), (hM, .inl (cJ, 6, (.inr (.inl (vp_updL (fun _ => 0) (0 : Int32).toNatClampNeg 1)))))] := hD
      have hr_5 := hw
      obtain rfl : r_5 = 1 := hr_5
      refine lv_if_ne (tgt := 35) hx hb dX10_relationOf_29 (by decide) (fun _ => ?_) (fun c => absurd c (by decide))
      rcases nk_split4 p1 (by (try simp only [nk_lt, nk_le, nk_eq, nk_wd, nk_c0, nk_c1, nk_c2, nk_c3, nk_c4, nk_c5, nk_c6, nk_c15, nk_c16, nk_c24, nk_c47, nk_c48, nk_c600, nk_c1728, nk_m1, nk_l0, nk_l1, nk_l2, nk_l3, nk_l5, nk_l15, nk_l24, nk_l47] at k_4); omega) with rfl | rfl | rfl | rfl
      · refine lv_iload_n hx hb dX10_relationOf_35 rfl (lv_at hl 1 rfl) ?_
        refine lv_iload_n hx hb dX10_relationOf_36 rfl (lv_at hl 2 rfl) ?_
        refine lv_ishr hx hb dX10_relationOf_37 ?_
        refine lv_topi (fun x_6 ex_6 => ?_)
        obtain rfl : x_6 = 15 := ex_6.trans (by first | rfl | decide)
        refine lv_iconst (v := 1) hx hb dX10_relationOf_38 (by decide) ?_
        refine lv_iand hx hb dX10_relationOf_39 ?_
        refine lv_topi (fun x_7 ex_7 => ?_)
        obtain rfl : x_7 = 1 := ex_7.trans (by first | rfl | decide)
        refine lv_if_ne (tgt := 45) hx hb dX10_relationOf_40 (by decide) (fun _ => ?_) (fun c => absurd c (by decide))
        refine lv_aload_n hx hb dX10_relationOf_45 rfl (lv_at hl 0 rfl) ?_
        refine va_get (D := (dC, dI)) (ci := 10) (v := .ref xHan) (C := RX10) (T := TX10) (N := 13) hx hb hts hiX10 hown hK hP 0 rfl rfl 8 (by decide) (hts (.fieldLink RX10 61 "ScissorsTable" "hang" "LScissorsTable$Hang;") (by decide +kernel)) (fun _ h9 => h9) rfl dX10_relationOf_46 ?_
        refine lv_iload_n hx hb dX10_relationOf_49 rfl (lv_at hl 1 rfl) ?_
        refine lv_iconst (v := 1) hx hb dX10_relationOf_50 (by decide) ?_
        refine lv_iload_n hx hb dX10_relationOf_51 rfl (lv_at hl 2 rfl) ?_
        refine lv_ishl hx hb dX10_relationOf_52 ?_
        refine lv_topi (fun x_8 ex_8 => ?_)
        obtain rfl : x_8 = 1 := ex_8.trans (by first | rfl | decide)
        refine lv_iconst (v := 1) hx hb dX10_relationOf_53 (by decide) ?_
        refine lv_isub hx hb dX10_relationOf_54 ?_
        refine lv_topi (fun x_9 ex_9 => ?_)
        obtain rfl : x_9 = 0 := ex_9.trans (by first | rfl | decide)
        refine lv_iand hx hb dX10_relationOf_55 ?_
        refine lv_topi (fun x_10 ex_10 => ?_)
        obtain rfl : x_10 = 0 := ex_10.trans (by first | rfl | decide)
        have hPc := hP.sub (ws' := []) [] rfl
        have hDc := hD.sub (ws' := []) [] (by decide) rfl
        have hFc := va_free (wc := []) hD hS hA [] rfl
        refine va_calli (va_runS (As := [.int 0]) (rest := [.ref xHan]) ⟨hx, hb, hml, hown, hts⟩ (c_J6_bitCount_0f7a4_0 l dC dI cB cI cJ H.size ) (va_cwS 1 hts gX10_relationOf_J6_bitCount_0f7a4 rfl rfl rfl (by decide +kernel) ⟨Nat.le_of_ble_eq_true rfl, Nat.le_of_ble_eq_true rfl⟩) ⟨fun a U g mk q => by obtain ⟨q0, q1, qP, qK, qD⟩ := q; exact ⟨q0, q1, qP, va_K.moved (u := U) (U := U.calling g mk a) (Vm.Alike.refl U.vm) qK, qD⟩, fun U hU hW => ⟨rfl, by rw [hU], by rw [hU]; exact hPc, va_K.moved hW.alike hK, hDc.weaken (fun _ _ _ _ => trivial)⟩⟩ rfl rfl hl.1 rfl (lv_room (Nat.le_of_ble_eq_true rfl)) dX10_relationOf_56 ⟨Nat.le_of_ble_eq_true rfl, Nat.le_of_ble_eq_true rfl⟩) hS (fun q _ h => hFc q h) hFc (fun r_11 u t H1 locs ht hvm hw hB hz1 hk1 hS => ?_)
        have hP1 : va_P (dC, dI) vwCl [] H1 := fun k q h => by simp at h
        have hD1 : va_D (va_A [] H.size) [] := ⟨fun i j p q h => by simp at h, fun k q h => by simp at h⟩
        obtain ⟨hP, hD⟩ := va_join (wr := [(x0, .inr (10, [.ref xTape, .ref xReader, .ref xBag, .ref xBld, .ref xAng, .ref xSum, .ref xPik, .int 0, .ref xHan, .ref xIns, .ref xShr, .ref xSta, .ref xTur])), (xSum, .inr (8, [.ref sM, .ref sP, .ref sA, .int 0])), (hH, .inl (cI, 7, (.inl (upd (upd (upd (upd (fun _ => 0) (0 : Int32).toNatClampNeg 0) (0 : Int32).toNatClampNeg 1) (0 : Int32).toNatClampNeg 2) (0 : Int32).toNatClampNeg 3)))), (hT, .inl (cJ, 7, (.inr (.inl (vp_updL (vp_updL (vp_updL (vp_updL (fun _ => 0) (0 : Int32).toNatClampNeg 1) (0 : Int32).toNatClampNeg 1) (0 : Int32).toNatClampNeg 1) (0 : Int32).toNatClampNeg 1))))), (xHan, .inr (3, [.int 0, .int 4, .int 1, .ref hH, .ref hR, .ref hT, .ref hM])), (hM, .inl (cJ, 6, (.inr (.inl (vp_updL (fun _ => 0) (0 : Int32).toNatClampNeg 1)))))]) (w1 := []) hP hD [] [0, 1, 2, 3, 4, 5] rfl rfl (by decide) (by decide) hk1 hFc hP1 hD1
        generalize H1 = H at hP hS ⊢
        have hP : va_P (dC, dI) vwCl [(x0, .inr (10, [.ref xTape, .ref xReader, .ref xBag, .ref xBld, .ref xAng, .ref xSum, .ref xPik, .int 0, .ref xHan, .ref xIns, .ref xShr, .ref xSta, .ref xTur])), (xSum, .inr (8, [.ref sM, .ref sP, .ref sA, .int 0])), (hH, .inl (cI, 7, (.inl (upd (upd (upd (upd (fun _ => 0) (0 : Int32).toNatClampNeg 0) (0 : Int32).toNatClampNeg 1) (0 : Int32).toNatClampNeg 2) (0 : Int32).toNatClampNeg 3)))), (hT, .inl (cJ, 7, (.inr (.inl (vp_updL (vp_updL (vp_updL (vp_updL (fun _ => 0) (0 : Int32).toNatClampNeg 1) (0 : Int32).toNatClampNeg 1) (0 : Int32).toNatClampNeg 1) (0 : Int32).toNatClampNeg 1))))), (xHan, .inr (3, [.int 0, .int 4, .int 1, .ref hH, .ref hR, .ref hT, .ref hM])), (hM, .inl (cJ, 6, (.inr (.inl (vp_updL (fun _ => 0) (0 : Int32).toNatClampNeg 1)))))] H := hP
        have hD : va_D A [(x0, .inr (10, [.ref xTape, .ref xReader, .ref xBag, .ref xBld, .ref xAng, .ref xSum, .ref xPik, .int 0, .ref xHan, .ref xIns, .ref xShr, .ref xSta, .ref xTur])), (xSum, .inr (8, [.ref sM, .ref sP, .ref sA, .int 0])), (hH, .inl (cI, 7, (.inl (upd (upd (upd (upd (fun _ => 0) (0 : Int32).toNatClampNeg 0) (0 : Int32).toNatClampNeg 1) (0 : Int32).toNatClampNeg 2) (0 : Int32).toNatClampNeg 3)))), (hT, .inl (cJ, 7, (.inr (.inl (vp_updL (vp_updL (vp_updL (vp_updL (fun _ => 0) (0 : Int32).toNatClampNeg 1) (0 : Int32).toNatClampNeg 1) (0 : Int32).toNatClampNeg 1) (0 : Int32).toNatClampNeg 1))))), (xHan, .inr (3, [.int 0, .int 4, .int 1, .ref hH, .ref hR, .ref hT, .ref hM])), (hM, .inl (cJ, 6, (.inr (.inl (vp_updL (fun _ => 0) (0 : Int32).toNatClampNeg 1)))))] := hD
        have hr_11 := hw
        obtain rfl : r_11 = 0 := hr_11
        have hPc := hP.sub (ws' := [(xHan, .inr (3, [.int 0, .int 4, .int 1, .ref hH, .ref hR, .ref hT, .ref hM])), (hM, .inl (cJ, 6, (.inr (.inl (vp_updL (fun _ => 0) (0 : Int32).toNatClampNeg 1)))))]) [4, 5] rfl
        have hDc := hD.sub (ws' := [(xHan, .inr (3, [.int 0, .int 4, .int 1, .ref hH, .ref hR, .ref hT, .ref hM])), (hM, .inl (cJ, 6, (.inr (.inl (vp_updL (fun _ => 0) (0 : Int32).toNatClampNeg 1)))))]) [4, 5] (by decide) rfl
        have hFc := va_free (wc := [(xHan, .inr (3, [.int 0, .int 4, .int 1, .ref hH, .ref hR, .ref hT, .ref hM])), (hM, .inl (cJ, 6, (.inr (.inl (vp_updL (fun _ => 0) (0 : Int32).toNatClampNeg 1)))))]) hD hS hA [4, 5] rfl
        refine va_calli (va_runV (As := [.int 0]) (rest := []) ⟨hx, hb, hml, hown, hts⟩ (c_X3_timesOf_t4_0 l dC dI cB cI cJ H.size xHan hH hR hT hM) (cwV 1 hts gX10_relationOf_X3_timesOf rfl rfl rfl (by decide +kernel) ⟨Nat.le_of_ble_eq_true rfl, Nat.le_of_ble_eq_true rfl⟩) ⟨fun a U g mk q => by obtain ⟨q0, q1, qP, qK, qD⟩ := q; exact ⟨q0, q1, qP, va_K.moved (u := U) (U := U.calling g mk a) (Vm.Alike.refl U.vm) qK, qD⟩, va_recv hK hP (ci := 3) (q0 := 4) rfl rfl, fun U hU hW => ⟨rfl, by rw [hU], by rw [hU]; exact hPc, va_K.moved hW.alike hK, hDc.weaken (fun _ _ _ _ => trivial)⟩⟩ rfl rfl hl.1 rfl (lv_room (Nat.le_of_ble_eq_true rfl)) dX10_relationOf_59 ⟨Nat.le_of_ble_eq_true rfl, Nat.le_of_ble_eq_true rfl⟩) hS (fun q _ h => hFc q h) hFc (fun r_12 u t H1 locs ht hvm hw hB hz1 hk1 hS => ?_)
        have hP1 : va_P (dC, dI) vwCl [] H1 := fun k q h => by simp at h
        have hD1 : va_D (va_A [(xHan, .inr (3, [.int 0, .int 4, .int 1, .ref hH, .ref hR, .ref hT, .ref hM])), (hM, .inl (cJ, 6, (.inr (.inl (vp_updL (fun _ => 0) (0 : Int32).toNatClampNeg 1)))))] H.size) [] := ⟨fun i j p q h => by simp at h, fun k q h => by simp at h⟩
        obtain ⟨hP, hD⟩ := va_join (wr := [(x0, .inr (10, [.ref xTape, .ref xReader, .ref xBag, .ref xBld, .ref xAng, .ref xSum, .ref xPik, .int 0, .ref xHan, .ref xIns, .ref xShr, .ref xSta, .ref xTur])), (xSum, .inr (8, [.ref sM, .ref sP, .ref sA, .int 0])), (hH, .inl (cI, 7, (.inl (upd (upd (upd (upd (fun _ => 0) (0 : Int32).toNatClampNeg 0) (0 : Int32).toNatClampNeg 1) (0 : Int32).toNatClampNeg 2) (0 : Int32).toNatClampNeg 3)))), (hT, .inl (cJ, 7, (.inr (.inl (vp_updL (vp_updL (vp_updL (vp_updL (fun _ => 0) (0 : Int32).toNatClampNeg 1) (0 : Int32).toNatClampNeg 1) (0 : Int32).toNatClampNeg 1) (0 : Int32).toNatClampNeg 1)))))]) (w1 := []) hP hD [4, 5] [0, 1, 2, 3] rfl rfl (by decide) (by decide) hk1 hFc hP1 hD1
        generalize H1 = H at hP hS ⊢
        have hP : va_P (dC, dI) vwCl [(x0, .inr (10, [.ref xTape, .ref xReader, .ref xBag, .ref xBld, .ref xAng, .ref xSum, .ref xPik, .int 0, .ref xHan, .ref xIns, .ref xShr, .ref xSta, .ref xTur])), (xSum, .inr (8, [.ref sM, .ref sP, .ref sA, .int 0])), (hH, .inl (cI, 7, (.inl (upd (upd (upd (upd (fun _ => 0) (0 : Int32).toNatClampNeg 0) (0 : Int32).toNatClampNeg 1) (0 : Int32).toNatClampNeg 2) (0 : Int32).toNatClampNeg 3)))), (hT, .inl (cJ, 7, (.inr (.inl (vp_updL (vp_updL (vp_updL (vp_updL (fun _ => 0) (0 : Int32).toNatClampNeg 1) (0 : Int32).toNatClampNeg 1) (0 : Int32).toNatClampNeg 1) (0 : Int32).toNatClampNeg 1)))))] H := hP
        have hD : va_D A [(x0, .inr (10, [.ref xTape, .ref xReader, .ref xBag, .ref xBld, .ref xAng, .ref xSum, .ref xPik, .int 0, .ref xHan, .ref xIns, .ref xShr, .ref xSta, .ref xTur])), (xSum, .inr (8, [.ref sM, .ref sP, .ref sA, .int 0])), (hH, .inl (cI, 7, (.inl (upd (upd (upd (upd (fun _ => 0) (0 : Int32).toNatClampNeg 0) (0 : Int32).toNatClampNeg 1) (0 : Int32).toNatClampNeg 2) (0 : Int32).toNatClampNeg 3)))), (hT, .inl (cJ, 7, (.inr (.inl (vp_updL (vp_updL (vp_updL (vp_updL (fun _ => 0) (0 : Int32).toNatClampNeg 1) (0 : Int32).toNatClampNeg 1) (0 : Int32).toNatClampNeg 1) (0 : Int32).toNatClampNeg 1)))))] := hD
        have hr_12 := hw
        obtain rfl : r_12 = 1 := hr_12
        refine W.widen (k := 0) (n := 0) (Nat.le_of_ble_eq_true rfl) (Nat.le_of_ble_eq_true rfl) ?_
        exact W.iret (v := 1) hx hb hr (fun t ht hW => ⟨⟨1, (), rfl, (by decide), trivial⟩, hS.F ht⟩) hS.2.2 dX10_relationOf_62
      · refine lv_iload_n hx hb dX10_relationOf_35 rfl (lv_at hl 1 rfl) ?_
        refine lv_iload_n hx hb dX10_relationOf_36 rfl (lv_at hl 2 rfl) ?_
        refine lv_ishr hx hb dX10_relationOf_37 ?_
        refine lv_topi (fun x_13 ex_13 => ?_)
        obtain rfl : x_13 = 7 := ex_13.trans (by first | rfl | decide)
        refine lv_iconst (v := 1) hx hb dX10_relationOf_38 (by decide) ?_
        refine lv_iand hx hb dX10_relationOf_39 ?_
        refine lv_topi (fun x_14 ex_14 => ?_)
        obtain rfl : x_14 = 1 := ex_14.trans (by first | rfl | decide)
        refine lv_if_ne (tgt := 45) hx hb dX10_relationOf_40 (by decide) (fun _ => ?_) (fun c => absurd c (by decide))
        refine lv_aload_n hx hb dX10_relationOf_45 rfl (lv_at hl 0 rfl) ?_
        refine va_get (D := (dC, dI)) (ci := 10) (v := .ref xHan) (C := RX10) (T := TX10) (N := 13) hx hb hts hiX10 hown hK hP 0 rfl rfl 8 (by decide) (hts (.fieldLink RX10 61 "ScissorsTable" "hang" "LScissorsTable$Hang;") (by decide +kernel)) (fun _ h9 => h9) rfl dX10_relationOf_46 ?_
        refine lv_iload_n hx hb dX10_relationOf_49 rfl (lv_at hl 1 rfl) ?_
        refine lv_iconst (v := 1) hx hb dX10_relationOf_50 (by decide) ?_
        refine lv_iload_n hx hb dX10_relationOf_51 rfl (lv_at hl 2 rfl) ?_
        refine lv_ishl hx hb dX10_relationOf_52 ?_
        refine lv_topi (fun x_15 ex_15 => ?_)
        obtain rfl : x_15 = 2 := ex_15.trans (by first | rfl | decide)
        refine lv_iconst (v := 1) hx hb dX10_relationOf_53 (by decide) ?_
        refine lv_isub hx hb dX10_relationOf_54 ?_
        refine lv_topi (fun x_16 ex_16 => ?_)
        obtain rfl : x_16 = 1 := ex_16.trans (by first | rfl | decide)
        refine lv_iand hx hb dX10_relationOf_55 ?_
        refine lv_topi (fun x_17 ex_17 => ?_)
        obtain rfl : x_17 = 1 := ex_17.trans (by first | rfl | decide)
        have hPc := hP.sub (ws' := []) [] rfl
        have hDc := hD.sub (ws' := []) [] (by decide) rfl
        have hFc := va_free (wc := []) hD hS hA [] rfl
        refine va_calli (va_runS (As := [.int 1]) (rest := [.ref xHan]) ⟨hx, hb, hml, hown, hts⟩ (c_J6_bitCount_0f7a4_1 l dC dI cB cI cJ H.size ) (va_cwS 1 hts gX10_relationOf_J6_bitCount_0f7a4 rfl rfl rfl (by decide +kernel) ⟨Nat.le_of_ble_eq_true rfl, Nat.le_of_ble_eq_true rfl⟩) ⟨fun a U g mk q => by obtain ⟨q0, q1, qP, qK, qD⟩ := q; exact ⟨q0, q1, qP, va_K.moved (u := U) (U := U.calling g mk a) (Vm.Alike.refl U.vm) qK, qD⟩, fun U hU hW => ⟨rfl, by rw [hU], by rw [hU]; exact hPc, va_K.moved hW.alike hK, hDc.weaken (fun _ _ _ _ => trivial)⟩⟩ rfl rfl hl.1 rfl (lv_room (Nat.le_of_ble_eq_true rfl)) dX10_relationOf_56 ⟨Nat.le_of_ble_eq_true rfl, Nat.le_of_ble_eq_true rfl⟩) hS (fun q _ h => hFc q h) hFc (fun r_18 u t H1 locs ht hvm hw hB hz1 hk1 hS => ?_)
        have hP1 : va_P (dC, dI) vwCl [] H1 := fun k q h => by simp at h
        have hD1 : va_D (va_A [] H.size) [] := ⟨fun i j p q h => by simp at h, fun k q h => by simp at h⟩
        obtain ⟨hP, hD⟩ := va_join (wr := [(x0, .inr (10, [.ref xTape, .ref xReader, .ref xBag, .ref xBld, .ref xAng, .ref xSum, .ref xPik, .int 0, .ref xHan, .ref xIns, .ref xShr, .ref xSta, .ref xTur])), (xSum, .inr (8, [.ref sM, .ref sP, .ref sA, .int 0])), (hH, .inl (cI, 7, (.inl (upd (upd (upd (upd (fun _ => 0) (0 : Int32).toNatClampNeg 0) (0 : Int32).toNatClampNeg 1) (0 : Int32).toNatClampNeg 2) (0 : Int32).toNatClampNeg 3)))), (hT, .inl (cJ, 7, (.inr (.inl (vp_updL (vp_updL (vp_updL (vp_updL (fun _ => 0) (0 : Int32).toNatClampNeg 1) (0 : Int32).toNatClampNeg 1) (0 : Int32).toNatClampNeg 1) (0 : Int32).toNatClampNeg 1))))), (xHan, .inr (3, [.int 0, .int 4, .int 1, .ref hH, .ref hR, .ref hT, .ref hM])), (hM, .inl (cJ, 6, (.inr (.inl (vp_updL (fun _ => 0) (0 : Int32).toNatClampNeg 1)))))]) (w1 := []) hP hD [] [0, 1, 2, 3, 4, 5] rfl rfl (by decide) (by decide) hk1 hFc hP1 hD1
        generalize H1 = H at hP hS ⊢
        have hP : va_P (dC, dI) vwCl [(x0, .inr (10, [.ref xTape, .ref xReader, .ref xBag, .ref xBld, .ref xAng, .ref xSum, .ref xPik, .int 0, .ref xHan, .ref xIns, .ref xShr, .ref xSta, .ref xTur])), (xSum, .inr (8, [.ref sM, .ref sP, .ref sA, .int 0])), (hH, .inl (cI, 7, (.inl (upd (upd (upd (upd (fun _ => 0) (0 : Int32).toNatClampNeg 0) (0 : Int32).toNatClampNeg 1) (0 : Int32).toNatClampNeg 2) (0 : Int32).toNatClampNeg 3)))), (hT, .inl (cJ, 7, (.inr (.inl (vp_updL (vp_updL (vp_updL (vp_updL (fun _ => 0) (0 : Int32).toNatClampNeg 1) (0 : Int32).toNatClampNeg 1) (0 : Int32).toNatClampNeg 1) (0 : Int32).toNatClampNeg 1))))), (xHan, .inr (3, [.int 0, .int 4, .int 1, .ref hH, .ref hR, .ref hT, .ref hM])), (hM, .inl (cJ, 6, (.inr (.inl (vp_updL (fun _ => 0) (0 : Int32).toNatClampNeg 1)))))] H := hP
        have hD : va_D A [(x0, .inr (10, [.ref xTape, .ref xReader, .ref xBag, .ref xBld, .ref xAng, .ref xSum, .ref xPik, .int 0, .ref xHan, .ref xIns, .ref xShr, .ref xSta, .ref xTur])), (xSum, .inr (8, [.ref sM, .ref sP, .ref sA, .int 0])), (hH, .inl (cI, 7, (.inl (upd (upd (upd (upd (fun _ => 0) (0 : Int32).toNatClampNeg 0) (0 : Int32).toNatClampNeg 1) (0 : Int32).toNatClampNeg 2) (0 : Int32).toNatClampNeg 3)))), (hT, .inl (cJ, 7, (.inr (.inl (vp_updL (vp_updL (vp_updL (vp_updL (fun _ => 0) (0 : Int32).toNatClampNeg 1) (0 : Int32).toNatClampNeg 1) (0 : Int32).toNatClampNeg 1) (0 : Int32).toNatClampNeg 1))))), (xHan, .inr (3, [.int 0, .int 4, .int 1, .ref hH, .ref hR, .ref hT, .ref hM])), (hM, .inl (cJ, 6, (.inr (.inl (vp_updL (fun _ => 0) (0 : Int32).toNatClampNeg 1)))))] := hD
        have hr_18 := hw
        obtain rfl : r_18 = 1 := hr_18
        have hPc := hP.sub (ws' := [(xHan, .inr (3, [.int 0, .int 4, .int 1, .ref hH, .ref hR, .ref hT, .ref hM])), (hM, .inl (cJ, 6, (.inr (.inl (vp_updL (fun _ => 0) (0 : Int32).toNatClampNeg 1)))))]) [4, 5] rfl
        have hDc := hD.sub (ws' := [(xHan, .inr (3, [.int 0, .int 4, .int 1, .ref hH, .ref hR, .ref hT, .ref hM])), (hM, .inl (cJ, 6, (.inr (.inl (vp_updL (fun _ => 0) (0 : Int32).toNatClampNeg 1)))))]) [4, 5] (by decide) rfl
        have hFc := va_free (wc := [(xHan, .inr (3, [.int 0, .int 4, .int 1, .ref hH, .ref hR, .ref hT, .ref hM])), (hM, .inl (cJ, 6, (.inr (.inl (vp_updL (fun _ => 0) (0 : Int32).toNatClampNeg 1)))))]) hD hS hA [4, 5] rfl
        refine va_calli (va_runV (As := [.int 1]) (rest := []) ⟨hx, hb, hml, hown, hts⟩ (c_X3_timesOf_t4_1 l dC dI cB cI cJ H.size xHan hH hR hT hM) (cwV 1 hts gX10_relationOf_X3_timesOf rfl rfl rfl (by decide +kernel) ⟨Nat.le_of_ble_eq_true rfl, Nat.le_of_ble_eq_true rfl⟩) ⟨fun a U g mk q => by obtain ⟨q0, q1, qP, qK, qD⟩ := q; exact ⟨q0, q1, qP, va_K.moved (u := U) (U := U.calling g mk a) (Vm.Alike.refl U.vm) qK, qD⟩, va_recv hK hP (ci := 3) (q0 := 4) rfl rfl, fun U hU hW => ⟨rfl, by rw [hU], by rw [hU]; exact hPc, va_K.moved hW.alike hK, hDc.weaken (fun _ _ _ _ => trivial)⟩⟩ rfl rfl hl.1 rfl (lv_room (Nat.le_of_ble_eq_true rfl)) dX10_relationOf_59 ⟨Nat.le_of_ble_eq_true rfl, Nat.le_of_ble_eq_true rfl⟩) hS (fun q _ h => hFc q h) hFc (fun r_19 u t H1 locs ht hvm hw hB hz1 hk1 hS => ?_)
        have hP1 : va_P (dC, dI) vwCl [] H1 := fun k q h => by simp at h
        have hD1 : va_D (va_A [(xHan, .inr (3, [.int 0, .int 4, .int 1, .ref hH, .ref hR, .ref hT, .ref hM])), (hM, .inl (cJ, 6, (.inr (.inl (vp_updL (fun _ => 0) (0 : Int32).toNatClampNeg 1)))))] H.size) [] := ⟨fun i j p q h => by simp at h, fun k q h => by simp at h⟩
        obtain ⟨hP, hD⟩ := va_join (wr := [(x0, .inr (10, [.ref xTape, .ref xReader, .ref xBag, .ref xBld, .ref xAng, .ref xSum, .ref xPik, .int 0, .ref xHan, .ref xIns, .ref xShr, .ref xSta, .ref xTur])), (xSum, .inr (8, [.ref sM, .ref sP, .ref sA, .int 0])), (hH, .inl (cI, 7, (.inl (upd (upd (upd (upd (fun _ => 0) (0 : Int32).toNatClampNeg 0) (0 : Int32).toNatClampNeg 1) (0 : Int32).toNatClampNeg 2) (0 : Int32).toNatClampNeg 3)))), (hT, .inl (cJ, 7, (.inr (.inl (vp_updL (vp_updL (vp_updL (vp_updL (fun _ => 0) (0 : Int32).toNatClampNeg 1) (0 : Int32).toNatClampNeg 1) (0 : Int32).toNatClampNeg 1) (0 : Int32).toNatClampNeg 1)))))]) (w1 := []) hP hD [4, 5] [0, 1, 2, 3] rfl rfl (by decide) (by decide) hk1 hFc hP1 hD1
        generalize H1 = H at hP hS ⊢
        have hP : va_P (dC, dI) vwCl [(x0, .inr (10, [.ref xTape, .ref xReader, .ref xBag, .ref xBld, .ref xAng, .ref xSum, .ref xPik, .int 0, .ref xHan, .ref xIns, .ref xShr, .ref xSta, .ref xTur])), (xSum, .inr (8, [.ref sM, .ref sP, .ref sA, .int 0])), (hH, .inl (cI, 7, (.inl (upd (upd (upd (upd (fun _ => 0) (0 : Int32).toNatClampNeg 0) (0 : Int32).toNatClampNeg 1) (0 : Int32).toNatClampNeg 2) (0 : Int32).toNatClampNeg 3)))), (hT, .inl (cJ, 7, (.inr (.inl (vp_updL (vp_updL (vp_updL (vp_updL (fun _ => 0) (0 : Int32).toNatClampNeg 1) (0 : Int32).toNatClampNeg 1) (0 : Int32).toNatClampNeg 1) (0 : Int32).toNatClampNeg 1)))))] H := hP
        have hD : va_D A [(x0, .inr (10, [.ref xTape, .ref xReader, .ref xBag, .ref xBld, .ref xAng, .ref xSum, .ref xPik, .int 0, .ref xHan, .ref xIns, .ref xShr, .ref xSta, .ref xTur])), (xSum, .inr (8, [.ref sM, .ref sP, .ref sA, .int 0])), (hH, .inl (cI, 7, (.inl (upd (upd (upd (upd (fun _ => 0) (0 : Int32).toNatClampNeg 0) (0 : Int32).toNatClampNeg 1) (0 : Int32).toNatClampNeg 2) (0 : Int32).toNatClampNeg 3)))), (hT, .inl (cJ, 7, (.inr (.inl (vp_updL (vp_updL (vp_updL (vp_updL (fun _ => 0) (0 : Int32).toNatClampNeg 1) (0 : Int32).toNatClampNeg 1) (0 : Int32).toNatClampNeg 1) (0 : Int32).toNatClampNeg 1)))))] := hD
        have hr_19 := hw
        obtain rfl : r_19 = 0 := hr_19
        refine W.widen (k := 0) (n := 0) (Nat.le_of_ble_eq_true rfl) (Nat.le_of_ble_eq_true rfl) ?_
        exact W.iret (v := 0) hx hb hr (fun t ht hW => ⟨⟨0, (), rfl, (by decide), trivial⟩, hS.F ht⟩) hS.2.2 dX10_relationOf_62
      · refine lv_iload_n hx hb dX10_relationOf_35 rfl (lv_at hl 1 rfl) ?_
        refine lv_iload_n hx hb dX10_relationOf_36 rfl (lv_at hl 2 rfl) ?_
        refine lv_ishr hx hb dX10_relationOf_37 ?_
        refine lv_topi (fun x_20 ex_20 => ?_)
        obtain rfl : x_20 = 3 := ex_20.trans (by first | rfl | decide)
        refine lv_iconst (v := 1) hx hb dX10_relationOf_38 (by decide) ?_
        refine lv_iand hx hb dX10_relationOf_39 ?_
        refine lv_topi (fun x_21 ex_21 => ?_)
        obtain rfl : x_21 = 1 := ex_21.trans (by first | rfl | decide)
        refine lv_if_ne (tgt := 45) hx hb dX10_relationOf_40 (by decide) (fun _ => ?_) (fun c => absurd c (by decide))
        refine lv_aload_n hx hb dX10_relationOf_45 rfl (lv_at hl 0 rfl) ?_
        refine va_get (D := (dC, dI)) (ci := 10) (v := .ref xHan) (C := RX10) (T := TX10) (N := 13) hx hb hts hiX10 hown hK hP 0 rfl rfl 8 (by decide) (hts (.fieldLink RX10 61 "ScissorsTable" "hang" "LScissorsTable$Hang;") (by decide +kernel)) (fun _ h9 => h9) rfl dX10_relationOf_46 ?_
        refine lv_iload_n hx hb dX10_relationOf_49 rfl (lv_at hl 1 rfl) ?_
        refine lv_iconst (v := 1) hx hb dX10_relationOf_50 (by decide) ?_
        refine lv_iload_n hx hb dX10_relationOf_51 rfl (lv_at hl 2 rfl) ?_
        refine lv_ishl hx hb dX10_relationOf_52 ?_
        refine lv_topi (fun x_22 ex_22 => ?_)
        obtain rfl : x_22 = 4 := ex_22.trans (by first | rfl | decide)
        refine lv_iconst (v := 1) hx hb dX10_relationOf_53 (by decide) ?_
        refine lv_isub hx hb dX10_relationOf_54 ?_
        refine lv_topi (fun x_23 ex_23 => ?_)
        obtain rfl : x_23 = 3 := ex_23.trans (by first | rfl | decide)
        refine lv_iand hx hb dX10_relationOf_55 ?_
        refine lv_topi (fun x_24 ex_24 => ?_)
        obtain rfl : x_24 = 3 := ex_24.trans (by first | rfl | decide)
        have hPc := hP.sub (ws' := []) [] rfl
        have hDc := hD.sub (ws' := []) [] (by decide) rfl
        have hFc := va_free (wc := []) hD hS hA [] rfl
        refine va_calli (va_runS (As := [.int 3]) (rest := [.ref xHan]) ⟨hx, hb, hml, hown, hts⟩ (c_J6_bitCount_0f7a4_3 l dC dI cB cI cJ H.size ) (va_cwS 1 hts gX10_relationOf_J6_bitCount_0f7a4 rfl rfl rfl (by decide +kernel) ⟨Nat.le_of_ble_eq_true rfl, Nat.le_of_ble_eq_true rfl⟩) ⟨fun a U g mk q => by obtain ⟨q0, q1, qP, qK, qD⟩ := q; exact ⟨q0, q1, qP, va_K.moved (u := U) (U := U.calling g mk a) (Vm.Alike.refl U.vm) qK, qD⟩, fun U hU hW => ⟨rfl, by rw [hU], by rw [hU]; exact hPc, va_K.moved hW.alike hK, hDc.weaken (fun _ _ _ _ => trivial)⟩⟩ rfl rfl hl.1 rfl (lv_room (Nat.le_of_ble_eq_true rfl)) dX10_relationOf_56 ⟨Nat.le_of_ble_eq_true rfl, Nat.le_of_ble_eq_true rfl⟩) hS (fun q _ h => hFc q h) hFc (fun r_25 u t H1 locs ht hvm hw hB hz1 hk1 hS => ?_)
        have hP1 : va_P (dC, dI) vwCl [] H1 := fun k q h => by simp at h
        have hD1 : va_D (va_A [] H.size) [] := ⟨fun i j p q h => by simp at h, fun k q h => by simp at h⟩
        obtain ⟨hP, hD⟩ := va_join (wr := [(x0, .inr (10, [.ref xTape, .ref xReader, .ref xBag, .ref xBld, .ref xAng, .ref xSum, .ref xPik, .int 0, .ref xHan, .ref xIns, .ref xShr, .ref xSta, .ref xTur])), (xSum, .inr (8, [.ref sM, .ref sP, .ref sA, .int 0])), (hH, .inl (cI, 7, (.inl (upd (upd (upd (upd (fun _ => 0) (0 : Int32).toNatClampNeg 0) (0 : Int32).toNatClampNeg 1) (0 : Int32).toNatClampNeg 2) (0 : Int32).toNatClampNeg 3)))), (hT, .inl (cJ, 7, (.inr (.inl (vp_updL (vp_updL (vp_updL (vp_updL (fun _ => 0) (0 : Int32).toNatClampNeg 1) (0 : Int32).toNatClampNeg 1) (0 : Int32).toNatClampNeg 1) (0 : Int32).toNatClampNeg 1))))), (xHan, .inr (3, [.int 0, .int 4, .int 1, .ref hH, .ref hR, .ref hT, .ref hM])), (hM, .inl (cJ, 6, (.inr (.inl (vp_updL (fun _ => 0) (0 : Int32).toNatClampNeg 1)))))]) (w1 := []) hP hD [] [0, 1, 2, 3, 4, 5] rfl rfl (by decide) (by decide) hk1 hFc hP1 hD1
        generalize H1 = H at hP hS ⊢
        have hP : va_P (dC, dI) vwCl [(x0, .inr (10, [.ref xTape, .ref xReader, .ref xBag, .ref xBld, .ref xAng, .ref xSum, .ref xPik, .int 0, .ref xHan, .ref xIns, .ref xShr, .ref xSta, .ref xTur])), (xSum, .inr (8, [.ref sM, .ref sP, .ref sA, .int 0])), (hH, .inl (cI, 7, (.inl (upd (upd (upd (upd (fun _ => 0) (0 : Int32).toNatClampNeg 0) (0 : Int32).toNatClampNeg 1) (0 : Int32).toNatClampNeg 2) (0 : Int32).toNatClampNeg 3)))), (hT, .inl (cJ, 7, (.inr (.inl (vp_updL (vp_updL (vp_updL (vp_updL (fun _ => 0) (0 : Int32).toNatClampNeg 1) (0 : Int32).toNatClampNeg 1) (0 : Int32).toNatClampNeg 1) (0 : Int32).toNatClampNeg 1))))), (xHan, .inr (3, [.int 0, .int 4, .int 1, .ref hH, .ref hR, .ref hT, .ref hM])), (hM, .inl (cJ, 6, (.inr (.inl (vp_updL (fun _ => 0) (0 : Int32).toNatClampNeg 1)))))] H := hP
        have hD : va_D A [(x0, .inr (10, [.ref xTape, .ref xReader, .ref xBag, .ref xBld, .ref xAng, .ref xSum, .ref xPik, .int 0, .ref xHan, .ref xIns, .ref xShr, .ref xSta, .ref xTur])), (xSum, .inr (8, [.ref sM, .ref sP, .ref sA, .int 0])), (hH, .inl (cI, 7, (.inl (upd (upd (upd (upd (fun _ => 0) (0 : Int32).toNatClampNeg 0) (0 : Int32).toNatClampNeg 1) (0 : Int32).toNatClampNeg 2) (0 : Int32).toNatClampNeg 3)))), (hT, .inl (cJ, 7, (.inr (.inl (vp_updL (vp_updL (vp_updL (vp_updL (fun _ => 0) (0 : Int32).toNatClampNeg 1) (0 : Int32).toNatClampNeg 1) (0 : Int32).toNatClampNeg 1) (0 : Int32).toNatClampNeg 1))))), (xHan, .inr (3, [.int 0, .int 4, .int 1, .ref hH, .ref hR, .ref hT, .ref hM])), (hM, .inl (cJ, 6, (.inr (.inl (vp_updL (fun _ => 0) (0 : Int32).toNatClampNeg 1)))))] := hD
        have hr_25 := hw
        obtain rfl : r_25 = 2 := hr_25
        have hPc := hP.sub (ws' := [(xHan, .inr (3, [.int 0, .int 4, .int 1, .ref hH, .ref hR, .ref hT, .ref hM])), (hM, .inl (cJ, 6, (.inr (.inl (vp_updL (fun _ => 0) (0 : Int32).toNatClampNeg 1)))))]) [4, 5] rfl
        have hDc := hD.sub (ws' := [(xHan, .inr (3, [.int 0, .int 4, .int 1, .ref hH, .ref hR, .ref hT, .ref hM])), (hM, .inl (cJ, 6, (.inr (.inl (vp_updL (fun _ => 0) (0 : Int32).toNatClampNeg 1)))))]) [4, 5] (by decide) rfl
        have hFc := va_free (wc := [(xHan, .inr (3, [.int 0, .int 4, .int 1, .ref hH, .ref hR, .ref hT, .ref hM])), (hM, .inl (cJ, 6, (.inr (.inl (vp_updL (fun _ => 0) (0 : Int32).toNatClampNeg 1)))))]) hD hS hA [4, 5] rfl
        refine va_calli (va_runV (As := [.int 2]) (rest := []) ⟨hx, hb, hml, hown, hts⟩ (c_X3_timesOf_t4_2 l dC dI cB cI cJ H.size xHan hH hR hT hM) (cwV 1 hts gX10_relationOf_X3_timesOf rfl rfl rfl (by decide +kernel) ⟨Nat.le_of_ble_eq_true rfl, Nat.le_of_ble_eq_true rfl⟩) ⟨fun a U g mk q => by obtain ⟨q0, q1, qP, qK, qD⟩ := q; exact ⟨q0, q1, qP, va_K.moved (u := U) (U := U.calling g mk a) (Vm.Alike.refl U.vm) qK, qD⟩, va_recv hK hP (ci := 3) (q0 := 4) rfl rfl, fun U hU hW => ⟨rfl, by rw [hU], by rw [hU]; exact hPc, va_K.moved hW.alike hK, hDc.weaken (fun _ _ _ _ => trivial)⟩⟩ rfl rfl hl.1 rfl (lv_room (Nat.le_of_ble_eq_true rfl)) dX10_relationOf_59 ⟨Nat.le_of_ble_eq_true rfl, Nat.le_of_ble_eq_true rfl⟩) hS (fun q _ h => hFc q h) hFc (fun r_26 u t H1 locs ht hvm hw hB hz1 hk1 hS => ?_)
        have hP1 : va_P (dC, dI) vwCl [] H1 := fun k q h => by simp at h
        have hD1 : va_D (va_A [(xHan, .inr (3, [.int 0, .int 4, .int 1, .ref hH, .ref hR, .ref hT, .ref hM])), (hM, .inl (cJ, 6, (.inr (.inl (vp_updL (fun _ => 0) (0 : Int32).toNatClampNeg 1)))))] H.size) [] := ⟨fun i j p q h => by simp at h, fun k q h => by simp at h⟩
        obtain ⟨hP, hD⟩ := va_join (wr := [(x0, .inr (10, [.ref xTape, .ref xReader, .ref xBag, .ref xBld, .ref xAng, .ref xSum, .ref xPik, .int 0, .ref xHan, .ref xIns, .ref xShr, .ref xSta, .ref xTur])), (xSum, .inr (8, [.ref sM, .ref sP, .ref sA, .int 0])), (hH, .inl (cI, 7, (.inl (upd (upd (upd (upd (fun _ => 0) (0 : Int32).toNatClampNeg 0) (0 : Int32).toNatClampNeg 1) (0 : Int32).toNatClampNeg 2) (0 : Int32).toNatClampNeg 3)))), (hT, .inl (cJ, 7, (.inr (.inl (vp_updL (vp_updL (vp_updL (vp_updL (fun _ => 0) (0 : Int32).toNatClampNeg 1) (0 : Int32).toNatClampNeg 1) (0 : Int32).toNatClampNeg 1) (0 : Int32).toNatClampNeg 1)))))]) (w1 := []) hP hD [4, 5] [0, 1, 2, 3] rfl rfl (by decide) (by decide) hk1 hFc hP1 hD1
        generalize H1 = H at hP hS ⊢
        have hP : va_P (dC, dI) vwCl [(x0, .inr (10, [.ref xTape, .ref xReader, .ref xBag, .ref xBld, .ref xAng, .ref xSum, .ref xPik, .int 0, .ref xHan, .ref xIns, .ref xShr, .ref xSta, .ref xTur])), (xSum, .inr (8, [.ref sM, .ref sP, .ref sA, .int 0])), (hH, .inl (cI, 7, (.inl (upd (upd (upd (upd (fun _ => 0) (0 : Int32).toNatClampNeg 0) (0 : Int32).toNatClampNeg 1) (0 : Int32).toNatClampNeg 2) (0 : Int32).toNatClampNeg 3)))), (hT, .inl (cJ, 7, (.inr (.inl (vp_updL (vp_updL (vp_updL (vp_updL (fun _ => 0) (0 : Int32).toNatClampNeg 1) (0 : Int32).toNatClampNeg 1) (0 : Int32).toNatClampNeg 1) (0 : Int32).toNatClampNeg 1)))))] H := hP
        have hD : va_D A [(x0, .inr (10, [.ref xTape, .ref xReader, .ref xBag, .ref xBld, .ref xAng, .ref xSum, .ref xPik, .int 0, .ref xHan, .ref xIns, .ref xShr, .ref xSta, .ref xTur])), (xSum, .inr (8, [.ref sM, .ref sP, .ref sA, .int 0])), (hH, .inl (cI, 7, (.inl (upd (upd (upd (upd (fun _ => 0) (0 : Int32).toNatClampNeg 0) (0 : Int32).toNatClampNeg 1) (0 : Int32).toNatClampNeg 2) (0 : Int32).toNatClampNeg 3)))), (hT, .inl (cJ, 7, (.inr (.inl (vp_updL (vp_updL (vp_updL (vp_updL (fun _ => 0) (0 : Int32).toNatClampNeg 1) (0 : Int32).toNatClampNeg 1) (0 : Int32).toNatClampNeg 1) (0 : Int32).toNatClampNeg 1)))))] := hD
        have hr_26 := hw
        obtain rfl : r_26 = 0 := hr_26
        refine W.widen (k := 0) (n := 0) (Nat.le_of_ble_eq_true rfl) (Nat.le_of_ble_eq_true rfl) ?_
        exact W.iret (v := 0) hx hb hr (fun t ht hW => ⟨⟨0, (), rfl, (by decide), trivial⟩, hS.F ht⟩) hS.2.2 dX10_relationOf_62
      · refine lv_iload_n hx hb dX10_relationOf_35 rfl (lv_at hl 1 rfl) ?_
        refine lv_iload_n hx hb dX10_relationOf_36 rfl (lv_at hl 2 rfl) ?_
        refine lv_ishr hx hb dX10_relationOf_37 ?_
        refine lv_topi (fun x_27 ex_27 => ?_)
        obtain rfl : x_27 = 1 := ex_27.trans (by first | rfl | decide)
        refine lv_iconst (v := 1) hx hb dX10_relationOf_38 (by decide) ?_
        refine lv_iand hx hb dX10_relationOf_39 ?_
        refine lv_topi (fun x_28 ex_28 => ?_)
        obtain rfl : x_28 = 1 := ex_28.trans (by first | rfl | decide)
        refine lv_if_ne (tgt := 45) hx hb dX10_relationOf_40 (by decide) (fun _ => ?_) (fun c => absurd c (by decide))
        refine lv_aload_n hx hb dX10_relationOf_45 rfl (lv_at hl 0 rfl) ?_
        refine va_get (D := (dC, dI)) (ci := 10) (v := .ref xHan) (C := RX10) (T := TX10) (N := 13) hx hb hts hiX10 hown hK hP 0 rfl rfl 8 (by decide) (hts (.fieldLink RX10 61 "ScissorsTable" "hang" "LScissorsTable$Hang;") (by decide +kernel)) (fun _ h9 => h9) rfl dX10_relationOf_46 ?_
        refine lv_iload_n hx hb dX10_relationOf_49 rfl (lv_at hl 1 rfl) ?_
        refine lv_iconst (v := 1) hx hb dX10_relationOf_50 (by decide) ?_
        refine lv_iload_n hx hb dX10_relationOf_51 rfl (lv_at hl 2 rfl) ?_
        refine lv_ishl hx hb dX10_relationOf_52 ?_
        refine lv_topi (fun x_29 ex_29 => ?_)
        obtain rfl : x_29 = 8 := ex_29.trans (by first | rfl | decide)
        refine lv_iconst (v := 1) hx hb dX10_relationOf_53 (by decide) ?_
        refine lv_isub hx hb dX10_relationOf_54 ?_
        refine lv_topi (fun x_30 ex_30 => ?_)
        obtain rfl : x_30 = 7 := ex_30.trans (by first | rfl | decide)
        refine lv_iand hx hb dX10_relationOf_55 ?_
        refine lv_topi (fun x_31 ex_31 => ?_)
        obtain rfl : x_31 = 7 := ex_31.trans (by first | rfl | decide)
        have hPc := hP.sub (ws' := []) [] rfl
        have hDc := hD.sub (ws' := []) [] (by decide) rfl
        have hFc := va_free (wc := []) hD hS hA [] rfl
        refine va_calli (va_runS (As := [.int 7]) (rest := [.ref xHan]) ⟨hx, hb, hml, hown, hts⟩ (c_J6_bitCount_0f7a4_7 l dC dI cB cI cJ H.size ) (va_cwS 1 hts gX10_relationOf_J6_bitCount_0f7a4 rfl rfl rfl (by decide +kernel) ⟨Nat.le_of_ble_eq_true rfl, Nat.le_of_ble_eq_true rfl⟩) ⟨fun a U g mk q => by obtain ⟨q0, q1, qP, qK, qD⟩ := q; exact ⟨q0, q1, qP, va_K.moved (u := U) (U := U.calling g mk a) (Vm.Alike.refl U.vm) qK, qD⟩, fun U hU hW => ⟨rfl, by rw [hU], by rw [hU]; exact hPc, va_K.moved hW.alike hK, hDc.weaken (fun _ _ _ _ => trivial)⟩⟩ rfl rfl hl.1 rfl (lv_room (Nat.le_of_ble_eq_true rfl)) dX10_relationOf_56 ⟨Nat.le_of_ble_eq_true rfl, Nat.le_of_ble_eq_true rfl⟩) hS (fun q _ h => hFc q h) hFc (fun r_32 u t H1 locs ht hvm hw hB hz1 hk1 hS => ?_)
        have hP1 : va_P (dC, dI) vwCl [] H1 := fun k q h => by simp at h
        have hD1 : va_D (va_A [] H.size) [] := ⟨fun i j p q h => by simp at h, fun k q h => by simp at h⟩
        obtain ⟨hP, hD⟩ := va_join (wr := [(x0, .inr (10, [.ref xTape, .ref xReader, .ref xBag, .ref xBld, .ref xAng, .ref xSum, .ref xPik, .int 0, .ref xHan, .ref xIns, .ref xShr, .ref xSta, .ref xTur])), (xSum, .inr (8, [.ref sM, .ref sP, .ref sA, .int 0])), (hH, .inl (cI, 7, (.inl (upd (upd (upd (upd (fun _ => 0) (0 : Int32).toNatClampNeg 0) (0 : Int32).toNatClampNeg 1) (0 : Int32).toNatClampNeg 2) (0 : Int32).toNatClampNeg 3)))), (hT, .inl (cJ, 7, (.inr (.inl (vp_updL (vp_updL (vp_updL (vp_updL (fun _ => 0) (0 : Int32).toNatClampNeg 1) (0 : Int32).toNatClampNeg 1) (0 : Int32).toNatClampNeg 1) (0 : Int32).toNatClampNeg 1))))), (xHan, .inr (3, [.int 0, .int 4, .int 1, .ref hH, .ref hR, .ref hT, .ref hM])), (hM, .inl (cJ, 6, (.inr (.inl (vp_updL (fun _ => 0) (0 : Int32).toNatClampNeg 1)))))]) (w1 := []) hP hD [] [0, 1, 2, 3, 4, 5] rfl rfl (by decide) (by decide) hk1 hFc hP1 hD1
        generalize H1 = H at hP hS ⊢
        have hP : va_P (dC, dI) vwCl [(x0, .inr (10, [.ref xTape, .ref xReader, .ref xBag, .ref xBld, .ref xAng, .ref xSum, .ref xPik, .int 0, .ref xHan, .ref xIns, .ref xShr, .ref xSta, .ref xTur])), (xSum, .inr (8, [.ref sM, .ref sP, .ref sA, .int 0])), (hH, .inl (cI, 7, (.inl (upd (upd (upd (upd (fun _ => 0) (0 : Int32).toNatClampNeg 0) (0 : Int32).toNatClampNeg 1) (0 : Int32).toNatClampNeg 2) (0 : Int32).toNatClampNeg 3)))), (hT, .inl (cJ, 7, (.inr (.inl (vp_updL (vp_updL (vp_updL (vp_updL (fun _ => 0) (0 : Int32).toNatClampNeg 1) (0 : Int32).toNatClampNeg 1) (0 : Int32).toNatClampNeg 1) (0 : Int32).toNatClampNeg 1))))), (xHan, .inr (3, [.int 0, .int 4, .int 1, .ref hH, .ref hR, .ref hT, .ref hM])), (hM, .inl (cJ, 6, (.inr (.inl (vp_updL (fun _ => 0) (0 : Int32).toNatClampNeg 1)))))] H := hP
        have hD : va_D A [(x0, .inr (10, [.ref xTape, .ref xReader, .ref xBag, .ref xBld, .ref xAng, .ref xSum, .ref xPik, .int 0, .ref xHan, .ref xIns, .ref xShr, .ref xSta, .ref xTur])), (xSum, .inr (8, [.ref sM, .ref sP, .ref sA, .int 0])), (hH, .inl (cI, 7, (.inl (upd (upd (upd (upd (fun _ => 0) (0 : Int32).toNatClampNeg 0) (0 : Int32).toNatClampNeg 1) (0 : Int32).toNatClampNeg 2) (0 : Int32).toNatClampNeg 3)))), (hT, .inl (cJ, 7, (.inr (.inl (vp_updL (vp_updL (vp_updL (vp_updL (fun _ => 0) (0 : Int32).toNatClampNeg 1) (0 : Int32).toNatClampNeg 1) (0 : Int32).toNatClampNeg 1) (0 : Int32).toNatClampNeg 1))))), (xHan, .inr (3, [.int 0, .int 4, .int 1, .ref hH, .ref hR, .ref hT, .ref hM])), (hM, .inl (cJ, 6, (.inr (.inl (vp_updL (fun _ => 0) (0 : Int32).toNatClampNeg 1)))))] := hD
        have hr_32 := hw
        obtain rfl : r_32 = 3 := hr_32
        have hPc := hP.sub (ws' := [(xHan, .inr (3, [.int 0, .int 4, .int 1, .ref hH, .ref hR, .ref hT, .ref hM])), (hM, .inl (cJ, 6, (.inr (.inl (vp_updL (fun _ => 0) (0 : Int32).toNatClampNeg 1)))))]) [4, 5] rfl
        have hDc := hD.sub (ws' := [(xHan, .inr (3, [.int 0, .int 4, .int 1, .ref hH, .ref hR, .ref hT, .ref hM])), (hM, .inl (cJ, 6, (.inr (.inl (vp_updL (fun _ => 0) (0 : Int32).toNatClampNeg 1)))))]) [4, 5] (by decide) rfl
        have hFc := va_free (wc := [(xHan, .inr (3, [.int 0, .int 4, .int 1, .ref hH, .ref hR, .ref hT, .ref hM])), (hM, .inl (cJ, 6, (.inr (.inl (vp_updL (fun _ => 0) (0 : Int32).toNatClampNeg 1)))))]) hD hS hA [4, 5] rfl
        refine va_calli (va_runV (As := [.int 3]) (rest := []) ⟨hx, hb, hml, hown, hts⟩ (c_X3_timesOf_t4_3 l dC dI cB cI cJ H.size xHan hH hR hT hM) (cwV 1 hts gX10_relationOf_X3_timesOf rfl rfl rfl (by decide +kernel) ⟨Nat.le_of_ble_eq_true rfl, Nat.le_of_ble_eq_true rfl⟩) ⟨fun a U g mk q => by obtain ⟨q0, q1, qP, qK, qD⟩ := q; exact ⟨q0, q1, qP, va_K.moved (u := U) (U := U.calling g mk a) (Vm.Alike.refl U.vm) qK, qD⟩, va_recv hK hP (ci := 3) (q0 := 4) rfl rfl, fun U hU hW => ⟨rfl, by rw [hU], by rw [hU]; exact hPc, va_K.moved hW.alike hK, hDc.weaken (fun _ _ _ _ => trivial)⟩⟩ rfl rfl hl.1 rfl (lv_room (Nat.le_of_ble_eq_true rfl)) dX10_relationOf_59 ⟨Nat.le_of_ble_eq_true rfl, Nat.le_of_ble_eq_true rfl⟩) hS (fun q _ h => hFc q h) hFc (fun r_33 u t H1 locs ht hvm hw hB hz1 hk1 hS => ?_)
        have hP1 : va_P (dC, dI) vwCl [] H1 := fun k q h => by simp at h
        have hD1 : va_D (va_A [(xHan, .inr (3, [.int 0, .int 4, .int 1, .ref hH, .ref hR, .ref hT, .ref hM])), (hM, .inl (cJ, 6, (.inr (.inl (vp_updL (fun _ => 0) (0 : Int32).toNatClampNeg 1)))))] H.size) [] := ⟨fun i j p q h => by simp at h, fun k q h => by simp at h⟩
        obtain ⟨hP, hD⟩ := va_join (wr := [(x0, .inr (10, [.ref xTape, .ref xReader, .ref xBag, .ref xBld, .ref xAng, .ref xSum, .ref xPik, .int 0, .ref xHan, .ref xIns, .ref xShr, .ref xSta, .ref xTur])), (xSum, .inr (8, [.ref sM, .ref sP, .ref sA, .int 0])), (hH, .inl (cI, 7, (.inl (upd (upd (upd (upd (fun _ => 0) (0 : Int32).toNatClampNeg 0) (0 : Int32).toNatClampNeg 1) (0 : Int32).toNatClampNeg 2) (0 : Int32).toNatClampNeg 3)))), (hT, .inl (cJ, 7, (.inr (.inl (vp_updL (vp_updL (vp_updL (vp_updL (fun _ => 0) (0 : Int32).toNatClampNeg 1) (0 : Int32).toNatClampNeg 1) (0 : Int32).toNatClampNeg 1) (0 : Int32).toNatClampNeg 1)))))]) (w1 := []) hP hD [4, 5] [0, 1, 2, 3] rfl rfl (by decide) (by decide) hk1 hFc hP1 hD1
        generalize H1 = H at hP hS ⊢
        have hP : va_P (dC, dI) vwCl [(x0, .inr (10, [.ref xTape, .ref xReader, .ref xBag, .ref xBld, .ref xAng, .ref xSum, .ref xPik, .int 0, .ref xHan, .ref xIns, .ref xShr, .ref xSta, .ref xTur])), (xSum, .inr (8, [.ref sM, .ref sP, .ref sA, .int 0])), (hH, .inl (cI, 7, (.inl (upd (upd (upd (upd (fun _ => 0) (0 : Int32).toNatClampNeg 0) (0 : Int32).toNatClampNeg 1) (0 : Int32).toNatClampNeg 2) (0 : Int32).toNatClampNeg 3)))), (hT, .inl (cJ, 7, (.inr (.inl (vp_updL (vp_updL (vp_updL (vp_updL (fun _ => 0) (0 : Int32).toNatClampNeg 1) (0 : Int32).toNatClampNeg 1) (0 : Int32).toNatClampNeg 1) (0 : Int32).toNatClampNeg 1)))))] H := hP
        have hD : va_D A [(x0, .inr (10, [.ref xTape, .ref xReader, .ref xBag, .ref xBld, .ref xAng, .ref xSum, .ref xPik, .int 0, .ref xHan, .ref xIns, .ref xShr, .ref xSta, .ref xTur])), (xSum, .inr (8, [.ref sM, .ref sP, .ref sA, .int 0])), (hH, .inl (cI, 7, (.inl (upd (upd (upd (upd (fun _ => 0) (0 : Int32).toNatClampNeg 0) (0 : Int32).toNatClampNeg 1) (0 : Int32).toNatClampNeg 2) (0 : Int32).toNatClampNeg 3)))), (hT, .inl (cJ, 7, (.inr (.inl (vp_updL (vp_updL (vp_updL (vp_updL (fun _ => 0) (0 : Int32).toNatClampNeg 1) (0 : Int32).toNatClampNeg 1) (0 : Int32).toNatClampNeg 1) (0 : Int32).toNatClampNeg 1)))))] := hD
        have hr_33 := hw
        obtain rfl : r_33 = 0 := hr_33
        refine W.widen (k := 0) (n := 0) (Nat.le_of_ble_eq_true rfl) (Nat.le_of_ble_eq_true rfl) ?_
        exact W.iret (v := 0) hx hb hr (fun t ht hW => ⟨⟨0, (), rfl, (by decide), trivial⟩, hS.F ht⟩) hS.2.2 dX10_relationOf_62
set_option maxHeartbeats 4000000 in
set_option maxRecDepth 100000 in
theorem c_X10_relationOf_out (l : Launch) (dC : Nat → ClassId) (dI : Nat → Nat → Nat) (cB cI cJ : ClassId) (sz : Nat) (x0 xTape xReader xBag xBld xAng xSum xPik xHan xIns xShr xSta xTur sM sP sA hH hR hT hM : Nat) (p0 p1 : Int32) (hp : ¬ (0 ≤ p0.toInt ∧ p0.toInt < 16)) : Met l yX10_relationOf wsX10_relationOf ({ frames := 12, cells := 0, slots := 0, locals := 400 }) (va_Pc [.ref x0, .int p0, .int p1] (fun U => U.heap.size = sz ∧ va_P (dC, dI) vwCl [(x0, .inr (10, [.ref xTape, .ref xReader, .ref xBag, .ref xBld, .ref xAng, .ref xSum, .ref xPik, .int 0, .ref xHan, .ref xIns, .ref xShr, .ref xSta, .ref xTur])), (xSum, .inr (8, [.ref sM, .ref sP, .ref sA, .int 0])), (xHan, .inr (3, [.int 0, .int 0, .int 0, .ref hH, .ref hR, .ref hT, .ref hM])), (hH, .inl (cI, 7, (.inl (fun _ => 0)))), (hT, .inl (cJ, 7, (.inr (.inl (fun _ => 0))))), (hM, .inl (cJ, 6, (.inr (.inl (fun _ => 0)))))] U.heap ∧ va_K (dC, dI) vwCl [(cB, .byte), (cI, .int), (cJ, .long)] U ∧ va_D (fun _ => True) [(x0, .inr (10, [.ref xTape, .ref xReader, .ref xBag, .ref xBld, .ref xAng, .ref xSum, .ref xPik, .int 0, .ref xHan, .ref xIns, .ref xShr, .ref xSta, .ref xTur])), (xSum, .inr (8, [.ref sM, .ref sP, .ref sA, .int 0])), (xHan, .inr (3, [.int 0, .int 0, .int 0, .ref hH, .ref hR, .ref hT, .ref hM])), (hH, .inl (cI, 7, (.inl (fun _ => 0)))), (hT, .inl (cJ, 7, (.inr (.inl (fun _ => 0))))), (hM, .inl (cJ, 6, (.inr (.inl (fun _ => 0)))))] ∧ va_Nw (.methodLinkNest RX3 62 yX10_gcd "ScissorsTable") U)) (va_Qi (fun (r : Int32) (_ : Unit) => r = sp_rel p0 p1) (fun _ _ => True) (va_A [(x0, .inr (10, [.ref xTape, .ref xReader, .ref xBag, .ref xBld, .ref xAng, .ref xSum, .ref xPik, .int 0, .ref xHan, .ref xIns, .ref xShr, .ref xSta, .ref xTur])), (xSum, .inr (8, [.ref sM, .ref sP, .ref sA, .int 0])), (xHan, .inr (3, [.int 0, .int 0, .int 0, .ref hH, .ref hR, .ref hT, .ref hM])), (hH, .inl (cI, 7, (.inl (fun _ => 0)))), (hT, .inl (cJ, 7, (.inr (.inl (fun _ => 0))))), (hM, .inl (cJ, 6, (.inr (.inl (fun _ => 0)))))] sz)) 0 0 (va_A [(x0, .inr (10, [.ref xTape, .ref xReader, .ref xBag, .ref xBld, .ref xAng, .ref xSum, .ref xPik, .int 0, .ref xHan, .ref xIns, .ref xShr, .ref xSta, .ref xTur])), (xSum, .inr (8, [.ref sM, .ref sP, .ref sA, .int 0])), (xHan, .inr (3, [.int 0, .int 0, .int 0, .ref hH, .ref hR, .ref hT, .ref hM])), (hH, .inl (cI, 7, (.inl (fun _ => 0)))), (hT, .inl (cJ, 7, (.inr (.inl (fun _ => 0))))), (hM, .inl (cJ, 6, (.inr (.inl (fun _ => 0)))))] sz) := by
  refine Met.ofW (cc := cX10_relationOf) (maxL := 3) (ret := (some .int)) (by decide) rfl ?_
  intro p e s m args below meth c s₁ B hml hv
  obtain ⟨rfl, hsz, hP, hK, hD0, hN0⟩ := hv
  have hx := B.exec
  have hb := B.bytes
  have hr := B.returns
  have hts := atoms_spec (ws := wsX10_relationOf) B.pre
  have hown : s.vm.findClass RX10 = some m.cls := findClass_of_methodNamed B.named
  have hlocks := B.notSynchronized
  subst hsz
  have hD := hD0.self (sz := s.heap.size)
  generalize hAe : va_A [(x0, .inr (10, [.ref xTape, .ref xReader, .ref xBag, .ref xBld, .ref xAng, .ref xSum, .ref xPik, .int 0, .ref xHan, .ref xIns, .ref xShr, .ref xSta, .ref xTur])), (xSum, .inr (8, [.ref sM, .ref sP, .ref sA, .int 0])), (xHan, .inr (3, [.int 0, .int 0, .int 0, .ref hH, .ref hR, .ref hT, .ref hM])), (hH, .inl (cI, 7, (.inl (fun _ => 0)))), (hT, .inl (cJ, 7, (.inr (.inl (fun _ => 0))))), (hM, .inl (cJ, 6, (.inr (.inl (fun _ => 0)))))] s.heap.size = A at hD ⊢
  have hA : ∀ q : Nat, s.heap.size ≤ q → A q := fun q h => by rw [← hAe]; exact Or.inr h
  have hS : va_S A s.heap s.heap [] := va_S.rf
  have hP : va_P (dC, dI) vwCl [(x0, .inr (10, [.ref xTape, .ref xReader, .ref xBag, .ref xBld, .ref xAng, .ref xSum, .ref xPik, .int 0, .ref xHan, .ref xIns, .ref xShr, .ref xSta, .ref xTur])), (xSum, .inr (8, [.ref sM, .ref sP, .ref sA, .int 0])), (xHan, .inr (3, [.int 0, .int 0, .int 0, .ref hH, .ref hR, .ref hT, .ref hM])), (hH, .inl (cI, 7, (.inl (fun _ => 0)))), (hT, .inl (cJ, 7, (.inr (.inl (fun _ => 0))))), (hM, .inl (cJ, 6, (.inr (.inl (fun _ => 0)))))] s.heap := hP
  have hl := lv_entry ([.ref x0, .int p0, .int p1]) (n := 3) (Nat.le_of_ble_eq_true rfl)
  rw [lg_entry_eq]
  generalize (lg_sl ([.ref x0, .int p0, .int p1]) ++ List.replicate (3 - (lg_sl ([.ref x0, .int p0, .int p1])).length) Slot.unset).toArray = ls at hl ⊢
  have hl : lv_has ls 3 [(0, .ref x0), (1, .int p0), (2, .int p1)] := hl
  refine lv_iload_n hx hb dX10_relationOf_0 rfl (lv_at hl 1 rfl) ?_
  have hPc := hP.sub (ws' := []) [] rfl
  have hDc := hD.sub (ws' := []) [] (by decide) rfl
  have hFc := va_free (wc := []) hD hS hA [] rfl
  refine va_calli (va_runS (As := [.int p0]) (rest := []) ⟨hx, hb, hml, hown, hts⟩ (c_X10_isSetOfSolids l dC dI cB cI cJ s.heap.size p0) (va_cwS 1 hts gX10_relationOf_X10_isSetOfSolids rfl rfl rfl (by decide +kernel) ⟨Nat.le_of_ble_eq_true rfl, Nat.le_of_ble_eq_true rfl⟩) ⟨fun a U g mk q => by obtain ⟨q0, q1, qP, qK, qD⟩ := q; exact ⟨q0, q1, qP, va_K.moved (u := U) (U := U.calling g mk a) (Vm.Alike.refl U.vm) qK, qD⟩, fun U hU hW => ⟨rfl, by rw [hU], by rw [hU]; exact hPc, va_K.moved hW.alike hK, hDc.weaken (fun _ _ _ _ => trivial)⟩⟩ rfl rfl hl.1 rfl (lv_room (Nat.le_of_ble_eq_true rfl)) dX10_relationOf_1 ⟨Nat.le_of_ble_eq_true rfl, Nat.le_of_ble_eq_true rfl⟩) hS (fun q _ h => hFc q h) hFc (fun r_1 u t H1 locs ht hvm hw hB hz1 hk1 hS => ?_)
  have hP1 : va_P (dC, dI) vwCl [] H1 := fun k q h => by simp at h
  have hD1 : va_D (va_A [] s.heap.size) [] := ⟨fun i j p q h => by simp at h, fun k q h => by simp at h⟩
  obtain ⟨hP, hD⟩ := va_join (wr := [(x0, .inr (10, [.ref xTape, .ref xReader, .ref xBag, .ref xBld, .ref xAng, .ref xSum, .ref xPik, .int 0, .ref xHan, .ref xIns, .ref xShr, .ref xSta, .ref xTur])), (xSum, .inr (8, [.ref sM, .ref sP, .ref sA, .int 0])), (xHan, .inr (3, [.int 0, .int 0, .int 0, .ref hH, .ref hR, .ref hT, .ref hM])), (hH, .inl (cI, 7, (.inl (fun _ => 0)))), (hT, .inl (cJ, 7, (.inr (.inl (fun _ => 0))))), (hM, .inl (cJ, 6, (.inr (.inl (fun _ => 0)))))]) (w1 := []) hP hD [] [0, 1, 2, 3, 4, 5] rfl rfl (by decide) (by decide) hk1 hFc hP1 hD1
  generalize H1 = H at hP hS ⊢
  have hP : va_P (dC, dI) vwCl [(x0, .inr (10, [.ref xTape, .ref xReader, .ref xBag, .ref xBld, .ref xAng, .ref xSum, .ref xPik, .int 0, .ref xHan, .ref xIns, .ref xShr, .ref xSta, .ref xTur])), (xSum, .inr (8, [.ref sM, .ref sP, .ref sA, .int 0])), (xHan, .inr (3, [.int 0, .int 0, .int 0, .ref hH, .ref hR, .ref hT, .ref hM])), (hH, .inl (cI, 7, (.inl (fun _ => 0)))), (hT, .inl (cJ, 7, (.inr (.inl (fun _ => 0))))), (hM, .inl (cJ, 6, (.inr (.inl (fun _ => 0)))))] H := hP
  have hD : va_D A [(x0, .inr (10, [.ref xTape, .ref xReader, .ref xBag, .ref xBld, .ref xAng, .ref xSum, .ref xPik, .int 0, .ref xHan, .ref xIns, .ref xShr, .ref xSta, .ref xTur])), (xSum, .inr (8, [.ref sM, .ref sP, .ref sA, .int 0])), (xHan, .inr (3, [.int 0, .int 0, .int 0, .ref hH, .ref hR, .ref hT, .ref hM])), (hH, .inl (cI, 7, (.inl (fun _ => 0)))), (hT, .inl (cJ, 7, (.inr (.inl (fun _ => 0))))), (hM, .inl (cJ, 6, (.inr (.inl (fun _ => 0)))))] := hD
  rcases hw with ⟨rfl, k_2⟩ | ⟨rfl, k_2⟩
  · refine lv_if_eq (tgt := 14) hx hb dX10_relationOf_4 (by decide) (fun _ => ?_) (fun c => absurd (by decide) c)
    refine lv_ldc (v := (-1000000)) hx hb hown (hts (.constant RX10 140 (-1000000)) (by decide +kernel)) dX10_relationOf_14 ?_
    refine W.widen (k := 0) (n := 0) (Nat.le_of_ble_eq_true rfl) (Nat.le_of_ble_eq_true rfl) ?_
    exact W.iret (v := (-1000000)) hx hb hr (fun t ht hW => ⟨⟨(-1000000), (), rfl, (show (-1000000 : Int32) = sp_rel p0 p1 from (by unfold sp_rel; rw [if_neg (fun h9 => hp h9.1)])), trivial⟩, hS.F ht⟩) hS.2.2 dX10_relationOf_16
  · exact (by (try simp only [nk_lt, nk_le, nk_eq, nk_wd, nk_c0, nk_c1, nk_c2, nk_c3, nk_c4, nk_c5, nk_c6, nk_c15, nk_c16, nk_c24, nk_c47, nk_c48, nk_c600, nk_c1728, nk_m1, nk_l0, nk_l1, nk_l2, nk_l3, nk_l5, nk_l15, nk_l24, nk_l47] at k_2); exfalso; apply hp; omega)
set_option maxHeartbeats 4000000 in
set_option maxRecDepth 100000 in
theorem c_X10_relationOf (l : Launch) (dC : Nat → ClassId) (dI : Nat → Nat → Nat) (cB cI cJ : ClassId) (sz : Nat) (x0 xTape xReader xBag xBld xAng xSum xPik xHan xIns xShr xSta xTur sM sP sA hH hR hT hM : Nat) (p0 p1 : Int32) : Met l yX10_relationOf wsX10_relationOf ({ frames := 12, cells := 0, slots := 0, locals := 400 }) (va_Pc [.ref x0, .int p0, .int p1] (fun U => U.heap.size = sz ∧ va_P (dC, dI) vwCl [(x0, .inr (10, [.ref xTape, .ref xReader, .ref xBag, .ref xBld, .ref xAng, .ref xSum, .ref xPik, .int 0, .ref xHan, .ref xIns, .ref xShr, .ref xSta, .ref xTur])), (xSum, .inr (8, [.ref sM, .ref sP, .ref sA, .int 0])), (xHan, .inr (3, [.int 0, .int 0, .int 0, .ref hH, .ref hR, .ref hT, .ref hM])), (hH, .inl (cI, 7, (.inl (fun _ => 0)))), (hT, .inl (cJ, 7, (.inr (.inl (fun _ => 0))))), (hM, .inl (cJ, 6, (.inr (.inl (fun _ => 0)))))] U.heap ∧ va_K (dC, dI) vwCl [(cB, .byte), (cI, .int), (cJ, .long)] U ∧ va_D (fun _ => True) [(x0, .inr (10, [.ref xTape, .ref xReader, .ref xBag, .ref xBld, .ref xAng, .ref xSum, .ref xPik, .int 0, .ref xHan, .ref xIns, .ref xShr, .ref xSta, .ref xTur])), (xSum, .inr (8, [.ref sM, .ref sP, .ref sA, .int 0])), (xHan, .inr (3, [.int 0, .int 0, .int 0, .ref hH, .ref hR, .ref hT, .ref hM])), (hH, .inl (cI, 7, (.inl (fun _ => 0)))), (hT, .inl (cJ, 7, (.inr (.inl (fun _ => 0))))), (hM, .inl (cJ, 6, (.inr (.inl (fun _ => 0)))))] ∧ va_Nw (.methodLinkNest RX3 62 yX10_gcd "ScissorsTable") U)) (va_Qi (fun (r : Int32) (_ : Unit) => r = sp_rel p0 p1) (fun _ _ => True) (va_A [(x0, .inr (10, [.ref xTape, .ref xReader, .ref xBag, .ref xBld, .ref xAng, .ref xSum, .ref xPik, .int 0, .ref xHan, .ref xIns, .ref xShr, .ref xSta, .ref xTur])), (xSum, .inr (8, [.ref sM, .ref sP, .ref sA, .int 0])), (xHan, .inr (3, [.int 0, .int 0, .int 0, .ref hH, .ref hR, .ref hT, .ref hM])), (hH, .inl (cI, 7, (.inl (fun _ => 0)))), (hT, .inl (cJ, 7, (.inr (.inl (fun _ => 0))))), (hM, .inl (cJ, 6, (.inr (.inl (fun _ => 0)))))] sz)) 0 0 (va_A [(x0, .inr (10, [.ref xTape, .ref xReader, .ref xBag, .ref xBld, .ref xAng, .ref xSum, .ref xPik, .int 0, .ref xHan, .ref xIns, .ref xShr, .ref xSta, .ref xTur])), (xSum, .inr (8, [.ref sM, .ref sP, .ref sA, .int 0])), (xHan, .inr (3, [.int 0, .int 0, .int 0, .ref hH, .ref hR, .ref hT, .ref hM])), (hH, .inl (cI, 7, (.inl (fun _ => 0)))), (hT, .inl (cJ, 7, (.inr (.inl (fun _ => 0))))), (hM, .inl (cJ, 6, (.inr (.inl (fun _ => 0)))))] sz) := by
  by_cases hp : 0 ≤ p0.toInt ∧ p0.toInt < 16
  · rcases nk_split16 p0 hp with rfl | rfl | rfl | rfl | rfl | rfl | rfl | rfl | rfl | rfl | rfl | rfl | rfl | rfl | rfl | rfl
    · exact c_X10_relationOf_0 l dC dI cB cI cJ sz x0 xTape xReader xBag xBld xAng xSum xPik xHan xIns xShr xSta xTur sM sP sA hH hR hT hM p1
    · exact c_X10_relationOf_1 l dC dI cB cI cJ sz x0 xTape xReader xBag xBld xAng xSum xPik xHan xIns xShr xSta xTur sM sP sA hH hR hT hM p1
    · exact c_X10_relationOf_2 l dC dI cB cI cJ sz x0 xTape xReader xBag xBld xAng xSum xPik xHan xIns xShr xSta xTur sM sP sA hH hR hT hM p1
    · exact c_X10_relationOf_3 l dC dI cB cI cJ sz x0 xTape xReader xBag xBld xAng xSum xPik xHan xIns xShr xSta xTur sM sP sA hH hR hT hM p1
    · exact c_X10_relationOf_4 l dC dI cB cI cJ sz x0 xTape xReader xBag xBld xAng xSum xPik xHan xIns xShr xSta xTur sM sP sA hH hR hT hM p1
    · exact c_X10_relationOf_5 l dC dI cB cI cJ sz x0 xTape xReader xBag xBld xAng xSum xPik xHan xIns xShr xSta xTur sM sP sA hH hR hT hM p1
    · exact c_X10_relationOf_6 l dC dI cB cI cJ sz x0 xTape xReader xBag xBld xAng xSum xPik xHan xIns xShr xSta xTur sM sP sA hH hR hT hM p1
    · exact c_X10_relationOf_7 l dC dI cB cI cJ sz x0 xTape xReader xBag xBld xAng xSum xPik xHan xIns xShr xSta xTur sM sP sA hH hR hT hM p1
    · exact c_X10_relationOf_8 l dC dI cB cI cJ sz x0 xTape xReader xBag xBld xAng xSum xPik xHan xIns xShr xSta xTur sM sP sA hH hR hT hM p1
    · exact c_X10_relationOf_9 l dC dI cB cI cJ sz x0 xTape xReader xBag xBld xAng xSum xPik xHan xIns xShr xSta xTur sM sP sA hH hR hT hM p1
    · exact c_X10_relationOf_10 l dC dI cB cI cJ sz x0 xTape xReader xBag xBld xAng xSum xPik xHan xIns xShr xSta xTur sM sP sA hH hR hT hM p1
    · exact c_X10_relationOf_11 l dC dI cB cI cJ sz x0 xTape xReader xBag xBld xAng xSum xPik xHan xIns xShr xSta xTur sM sP sA hH hR hT hM p1
    · exact c_X10_relationOf_12 l dC dI cB cI cJ sz x0 xTape xReader xBag xBld xAng xSum xPik xHan xIns xShr xSta xTur sM sP sA hH hR hT hM p1
    · exact c_X10_relationOf_13 l dC dI cB cI cJ sz x0 xTape xReader xBag xBld xAng xSum xPik xHan xIns xShr xSta xTur sM sP sA hH hR hT hM p1
    · exact c_X10_relationOf_14 l dC dI cB cI cJ sz x0 xTape xReader xBag xBld xAng xSum xPik xHan xIns xShr xSta xTur sM sP sA hH hR hT hM p1
    · exact c_X10_relationOf_15 l dC dI cB cI cJ sz x0 xTape xReader xBag xBld xAng xSum xPik xHan xIns xShr xSta xTur sM sP sA hH hR hT hM p1
  · exact c_X10_relationOf_out l dC dI cB cI cJ sz x0 xTape xReader xBag xBld xAng xSum xPik xHan xIns xShr xSta xTur sM sP sA hH hR hT hM p0 p1 hp
