theorem dX1_has_0 : decode cX1_has 0 = .ok (.iload_n 1, 1) := by decide +kernel
theorem dX1_has_1 : decode cX1_has 1 = .ok (.ifCond .lt 21, 3) := by decide +kernel
theorem dX1_has_4 : decode cX1_has 4 = .ok (.iload_n 1, 1) := by decide +kernel
theorem dX1_has_5 : decode cX1_has 5 = .ok (.aload_n 0, 1) := by decide +kernel
theorem dX1_has_6 : decode cX1_has 6 = .ok (.getfield 27, 3) := by decide +kernel
theorem dX1_has_9 : decode cX1_has 9 = .ok (.if_icmp .ge 13, 3) := by decide +kernel
theorem dX1_has_22 : decode cX1_has 22 = .ok (.iconst 0, 1) := by decide +kernel
theorem dX1_has_23 : decode cX1_has 23 = .ok (.ireturn, 1) := by decide +kernel
theorem dX1_sixOfSolid_0 : decode cX1_sixOfSolid 0 = .ok (.iconst 0, 1) := by decide +kernel
theorem dX1_sixOfSolid_1 : decode cX1_sixOfSolid 1 = .ok (.istore_n 2, 1) := by decide +kernel
theorem dX1_sixOfSolid_2 : decode cX1_sixOfSolid 2 = .ok (.iconst 0, 1) := by decide +kernel
theorem dX1_sixOfSolid_3 : decode cX1_sixOfSolid 3 = .ok (.istore_n 3, 1) := by decide +kernel
theorem dX1_sixOfSolid_4 : decode cX1_sixOfSolid 4 = .ok (.iload_n 3, 1) := by decide +kernel
theorem dX1_sixOfSolid_5 : decode cX1_sixOfSolid 5 = .ok (.aload_n 0, 1) := by decide +kernel
theorem dX1_sixOfSolid_6 : decode cX1_sixOfSolid 6 = .ok (.getfield 27, 3) := by decide +kernel
theorem dX1_sixOfSolid_9 : decode cX1_sixOfSolid 9 = .ok (.if_icmp .ge 32, 3) := by decide +kernel
theorem dX1_sixOfSolid_41 : decode cX1_sixOfSolid 41 = .ok (.iload_n 2, 1) := by decide +kernel
theorem dX1_sixOfSolid_42 : decode cX1_sixOfSolid 42 = .ok (.ireturn, 1) := by decide +kernel
theorem dX1_tetsOfSolid_0 : decode cX1_tetsOfSolid 0 = .ok (.iconst 0, 1) := by decide +kernel
theorem dX1_tetsOfSolid_1 : decode cX1_tetsOfSolid 1 = .ok (.istore_n 2, 1) := by decide +kernel
theorem dX1_tetsOfSolid_2 : decode cX1_tetsOfSolid 2 = .ok (.iconst 0, 1) := by decide +kernel
theorem dX1_tetsOfSolid_3 : decode cX1_tetsOfSolid 3 = .ok (.istore_n 3, 1) := by decide +kernel
theorem dX1_tetsOfSolid_4 : decode cX1_tetsOfSolid 4 = .ok (.iload_n 3, 1) := by decide +kernel
theorem dX1_tetsOfSolid_5 : decode cX1_tetsOfSolid 5 = .ok (.aload_n 0, 1) := by decide +kernel
theorem dX1_tetsOfSolid_6 : decode cX1_tetsOfSolid 6 = .ok (.getfield 27, 3) := by decide +kernel
theorem dX1_tetsOfSolid_9 : decode cX1_tetsOfSolid 9 = .ok (.if_icmp .ge 27, 3) := by decide +kernel
theorem dX1_tetsOfSolid_36 : decode cX1_tetsOfSolid 36 = .ok (.iload_n 2, 1) := by decide +kernel
theorem dX1_tetsOfSolid_37 : decode cX1_tetsOfSolid 37 = .ok (.ireturn, 1) := by decide +kernel
theorem dX1_greatestSix_0 : decode cX1_greatestSix 0 = .ok (.iconst 0, 1) := by decide +kernel
theorem dX1_greatestSix_1 : decode cX1_greatestSix 1 = .ok (.istore_n 1, 1) := by decide +kernel
theorem dX1_greatestSix_2 : decode cX1_greatestSix 2 = .ok (.iconst 0, 1) := by decide +kernel
theorem dX1_greatestSix_3 : decode cX1_greatestSix 3 = .ok (.istore_n 2, 1) := by decide +kernel
theorem dX1_greatestSix_4 : decode cX1_greatestSix 4 = .ok (.iload_n 2, 1) := by decide +kernel
theorem dX1_greatestSix_5 : decode cX1_greatestSix 5 = .ok (.aload_n 0, 1) := by decide +kernel
theorem dX1_greatestSix_6 : decode cX1_greatestSix 6 = .ok (.getfield 27, 3) := by decide +kernel
theorem dX1_greatestSix_9 : decode cX1_greatestSix 9 = .ok (.if_icmp .ge 20, 3) := by decide +kernel
theorem dX1_greatestSix_29 : decode cX1_greatestSix 29 = .ok (.iload_n 1, 1) := by decide +kernel
theorem dX1_greatestSix_30 : decode cX1_greatestSix 30 = .ok (.ireturn, 1) := by decide +kernel
theorem dX8_clear_0 : decode cX8_clear 0 = .ok (.aload_n 0, 1) := by decide +kernel
theorem dX8_clear_1 : decode cX8_clear 1 = .ok (.iconst 0, 1) := by decide +kernel
theorem dX8_clear_2 : decode cX8_clear 2 = .ok (.putfield 21, 3) := by decide +kernel
theorem dX8_clear_5 : decode cX8_clear 5 = .ok (.return_, 1) := by decide +kernel
theorem dX8_isAt_0 : decode cX8_isAt 0 = .ok (.iload_n 1, 1) := by decide +kernel
theorem dX8_isAt_1 : decode cX8_isAt 1 = .ok (.ifCond .lt 35, 3) := by decide +kernel
theorem dX8_isAt_4 : decode cX8_isAt 4 = .ok (.iload_n 1, 1) := by decide +kernel
theorem dX8_isAt_5 : decode cX8_isAt 5 = .ok (.aload_n 0, 1) := by decide +kernel
theorem dX8_isAt_6 : decode cX8_isAt 6 = .ok (.getfield 21, 3) := by decide +kernel
theorem dX8_isAt_9 : decode cX8_isAt 9 = .ok (.if_icmp .ge 27, 3) := by decide +kernel
theorem dX8_isAt_36 : decode cX8_isAt 36 = .ok (.iconst 0, 1) := by decide +kernel
theorem dX8_isAt_37 : decode cX8_isAt 37 = .ok (.ireturn, 1) := by decide +kernel
theorem dX8_firstNotBelow_0 : decode cX8_firstNotBelow 0 = .ok (.iconst 0, 1) := by decide +kernel
theorem dX8_firstNotBelow_1 : decode cX8_firstNotBelow 1 = .ok (.istore_n 3, 1) := by decide +kernel
theorem dX8_firstNotBelow_2 : decode cX8_firstNotBelow 2 = .ok (.aload_n 0, 1) := by decide +kernel
theorem dX8_firstNotBelow_3 : decode cX8_firstNotBelow 3 = .ok (.getfield 21, 3) := by decide +kernel
theorem dX8_firstNotBelow_6 : decode cX8_firstNotBelow 6 = .ok (.istore 4, 2) := by decide +kernel
theorem dX8_firstNotBelow_8 : decode cX8_firstNotBelow 8 = .ok (.iconst 0, 1) := by decide +kernel
theorem dX8_firstNotBelow_9 : decode cX8_firstNotBelow 9 = .ok (.istore 5, 2) := by decide +kernel
theorem dX8_firstNotBelow_11 : decode cX8_firstNotBelow 11 = .ok (.iload 5, 2) := by decide +kernel
theorem dX8_firstNotBelow_13 : decode cX8_firstNotBelow 13 = .ok (.bipush 32, 2) := by decide +kernel
theorem dX8_firstNotBelow_15 : decode cX8_firstNotBelow 15 = .ok (.if_icmp .ge 68, 3) := by decide +kernel
theorem dX8_firstNotBelow_18 : decode cX8_firstNotBelow 18 = .ok (.iload_n 3, 1) := by decide +kernel
theorem dX8_firstNotBelow_19 : decode cX8_firstNotBelow 19 = .ok (.iload 4, 2) := by decide +kernel
theorem dX8_firstNotBelow_21 : decode cX8_firstNotBelow 21 = .ok (.if_icmp .ge 62, 3) := by decide +kernel
theorem dX8_firstNotBelow_83 : decode cX8_firstNotBelow 83 = .ok (.iload_n 3, 1) := by decide +kernel
theorem dX8_firstNotBelow_84 : decode cX8_firstNotBelow 84 = .ok (.ireturn, 1) := by decide +kernel
theorem dX8_terms_0 : decode cX8_terms 0 = .ok (.iconst 0, 1) := by decide +kernel
theorem dX8_terms_1 : decode cX8_terms 1 = .ok (.istore_n 2, 1) := by decide +kernel
theorem dX8_terms_2 : decode cX8_terms 2 = .ok (.iconst 0, 1) := by decide +kernel
theorem dX8_terms_3 : decode cX8_terms 3 = .ok (.istore_n 3, 1) := by decide +kernel
theorem dX8_terms_4 : decode cX8_terms 4 = .ok (.iload_n 3, 1) := by decide +kernel
theorem dX8_terms_5 : decode cX8_terms 5 = .ok (.aload_n 0, 1) := by decide +kernel
theorem dX8_terms_6 : decode cX8_terms 6 = .ok (.getfield 21, 3) := by decide +kernel
theorem dX8_terms_9 : decode cX8_terms 9 = .ok (.if_icmp .ge 26, 3) := by decide +kernel
theorem dX8_terms_35 : decode cX8_terms 35 = .ok (.iload_n 2, 1) := by decide +kernel
theorem dX8_terms_36 : decode cX8_terms 36 = .ok (.ireturn, 1) := by decide +kernel
theorem dX8_rowOfTerm_0 : decode cX8_rowOfTerm 0 = .ok (.iconst 0, 1) := by decide +kernel
theorem dX8_rowOfTerm_1 : decode cX8_rowOfTerm 1 = .ok (.istore_n 3, 1) := by decide +kernel
theorem dX8_rowOfTerm_2 : decode cX8_rowOfTerm 2 = .ok (.iconst 0, 1) := by decide +kernel
theorem dX8_rowOfTerm_3 : decode cX8_rowOfTerm 3 = .ok (.istore 4, 2) := by decide +kernel
theorem dX8_rowOfTerm_5 : decode cX8_rowOfTerm 5 = .ok (.iload 4, 2) := by decide +kernel
theorem dX8_rowOfTerm_7 : decode cX8_rowOfTerm 7 = .ok (.aload_n 0, 1) := by decide +kernel
theorem dX8_rowOfTerm_8 : decode cX8_rowOfTerm 8 = .ok (.getfield 21, 3) := by decide +kernel
theorem dX8_rowOfTerm_11 : decode cX8_rowOfTerm 11 = .ok (.if_icmp .ge 30, 3) := by decide +kernel
theorem dX8_rowOfTerm_41 : decode cX8_rowOfTerm 41 = .ok (.iconst (-1), 1) := by decide +kernel
theorem dX8_rowOfTerm_42 : decode cX8_rowOfTerm 42 = .ok (.ireturn, 1) := by decide +kernel
theorem dX8_firstUnlike_0 : decode cX8_firstUnlike 0 = .ok (.iconst 0, 1) := by decide +kernel
theorem dX8_firstUnlike_1 : decode cX8_firstUnlike 1 = .ok (.istore_n 3, 1) := by decide +kernel
theorem dX8_firstUnlike_2 : decode cX8_firstUnlike 2 = .ok (.iload_n 3, 1) := by decide +kernel
theorem dX8_firstUnlike_3 : decode cX8_firstUnlike 3 = .ok (.aload_n 0, 1) := by decide +kernel
theorem dX8_firstUnlike_4 : decode cX8_firstUnlike 4 = .ok (.getfield 21, 3) := by decide +kernel
theorem dX8_firstUnlike_7 : decode cX8_firstUnlike 7 = .ok (.if_icmp .ge 26, 3) := by decide +kernel
theorem dX8_firstUnlike_33 : decode cX8_firstUnlike 33 = .ok (.iconst (-1), 1) := by decide +kernel
theorem dX8_firstUnlike_34 : decode cX8_firstUnlike 34 = .ok (.ireturn, 1) := by decide +kernel
theorem dX8_greatest_0 : decode cX8_greatest 0 = .ok (.iconst 0, 1) := by decide +kernel
theorem dX8_greatest_1 : decode cX8_greatest 1 = .ok (.istore_n 2, 1) := by decide +kernel
theorem dX8_greatest_2 : decode cX8_greatest 2 = .ok (.iconst 0, 1) := by decide +kernel
theorem dX8_greatest_3 : decode cX8_greatest 3 = .ok (.istore_n 3, 1) := by decide +kernel
theorem dX8_greatest_4 : decode cX8_greatest 4 = .ok (.iload_n 3, 1) := by decide +kernel
theorem dX8_greatest_5 : decode cX8_greatest 5 = .ok (.aload_n 0, 1) := by decide +kernel
theorem dX8_greatest_6 : decode cX8_greatest 6 = .ok (.getfield 21, 3) := by decide +kernel
theorem dX8_greatest_9 : decode cX8_greatest 9 = .ok (.if_icmp .ge 23, 3) := by decide +kernel
theorem dX8_greatest_32 : decode cX8_greatest 32 = .ok (.iload_n 2, 1) := by decide +kernel
theorem dX8_greatest_33 : decode cX8_greatest 33 = .ok (.ireturn, 1) := by decide +kernel
theorem dX10_isSolid_0 : decode cX10_isSolid 0 = .ok (.iload_n 0, 1) := by decide +kernel
theorem dX10_isSolid_1 : decode cX10_isSolid 1 = .ok (.ifCond .lt 12, 3) := by decide +kernel
theorem dX10_isSolid_4 : decode cX10_isSolid 4 = .ok (.iload_n 0, 1) := by decide +kernel
theorem dX10_isSolid_5 : decode cX10_isSolid 5 = .ok (.iconst 4, 1) := by decide +kernel
theorem dX10_isSolid_6 : decode cX10_isSolid 6 = .ok (.if_icmp .ge 7, 3) := by decide +kernel
theorem dX10_isSolid_9 : decode cX10_isSolid 9 = .ok (.iconst 1, 1) := by decide +kernel
theorem dX10_isSolid_10 : decode cX10_isSolid 10 = .ok (.goto 4, 3) := by decide +kernel
theorem dX10_isSolid_13 : decode cX10_isSolid 13 = .ok (.iconst 0, 1) := by decide +kernel
theorem dX10_isSolid_14 : decode cX10_isSolid 14 = .ok (.ireturn, 1) := by decide +kernel
theorem dX10_isSetOfSolids_0 : decode cX10_isSetOfSolids 0 = .ok (.iload_n 0, 1) := by decide +kernel
theorem dX10_isSetOfSolids_1 : decode cX10_isSetOfSolids 1 = .ok (.ifCond .lt 13, 3) := by decide +kernel
theorem dX10_isSetOfSolids_4 : decode cX10_isSetOfSolids 4 = .ok (.iload_n 0, 1) := by decide +kernel
theorem dX10_isSetOfSolids_5 : decode cX10_isSetOfSolids 5 = .ok (.bipush 16, 2) := by decide +kernel
theorem dX10_isSetOfSolids_7 : decode cX10_isSetOfSolids 7 = .ok (.if_icmp .ge 7, 3) := by decide +kernel
theorem dX10_isSetOfSolids_10 : decode cX10_isSetOfSolids 10 = .ok (.iconst 1, 1) := by decide +kernel
theorem dX10_isSetOfSolids_11 : decode cX10_isSetOfSolids 11 = .ok (.goto 4, 3) := by decide +kernel
theorem dX10_isSetOfSolids_14 : decode cX10_isSetOfSolids 14 = .ok (.iconst 0, 1) := by decide +kernel
theorem dX10_isSetOfSolids_15 : decode cX10_isSetOfSolids 15 = .ok (.ireturn, 1) := by decide +kernel
set_option maxHeartbeats 4000000 in
set_option maxRecDepth 100000 in
theorem c_X10_isSolid (l : Launch) (dC : Nat → ClassId) (dI : Nat → Nat → Nat) (cB cI cJ : ClassId) (sz : Nat)  (p0 : Int32) : Met l yX10_isSolid wsX10_isSolid ({ frames := 1, cells := 0, slots := 0, locals := 24 }) (va_Pc [.int p0] (fun U => U.heap.size = sz ∧ va_P (dC, dI) vwCl [] U.heap ∧ va_K (dC, dI) vwCl [(cB, .byte), (cI, .int), (cJ, .long)] U ∧ va_D (fun _ => True) [])) (va_Qi (fun (r : Int32) (_ : Unit) => (r = 0 ∧ ¬ (0 ≤ p0.toInt ∧ p0.toInt < 4)) ∨ (r = 1 ∧ (0 ≤ p0.toInt ∧ p0.toInt < 4))) (fun _ _ => True) (va_A [] sz)) 0 0 (va_A [] sz) := by
  refine Met.ofW (cc := cX10_isSolid) (maxL := 1) (ret := (some .boolean)) (by decide) rfl ?_
  intro p e s m args below meth c s₁ B hml hv
  obtain ⟨rfl, hsz, hP, hK, hD0⟩ := hv
  have hx := B.exec
  have hb := B.bytes
  have hr := B.returns
  have hts := atoms_spec (ws := wsX10_isSolid) B.pre
  have hown : s.vm.findClass RX10 = some m.cls := findClass_of_methodNamed B.named
  have hlocks := B.notSynchronized
  subst hsz
  have hD := hD0.self (sz := s.heap.size)
  generalize hAe : va_A [] s.heap.size = A at hD ⊢
  have hA : ∀ q : Nat, s.heap.size ≤ q → A q := fun q h => by rw [← hAe]; exact Or.inr h
  have hS : va_S A s.heap s.heap [] := va_S.rf
  have hP : va_P (dC, dI) vwCl [] s.heap := hP
  have hl := lv_entry ([.int p0]) (n := 1) (Nat.le_of_ble_eq_true rfl)
  rw [lg_entry_eq]
  generalize (lg_sl ([.int p0]) ++ List.replicate (1 - (lg_sl ([.int p0])).length) Slot.unset).toArray = ls at hl ⊢
  have hl : lv_has ls 1 [(0, .int p0)] := hl
  refine lv_iload_n hx hb dX10_isSolid_0 rfl (lv_at hl 0 rfl) ?_
  refine lv_if_lt (tgt := 13) hx hb dX10_isSolid_1 (by decide) (fun c_1 => ?_) (fun c_1 => ?_)
  · refine lv_iconst (v := 0) hx hb dX10_isSolid_13 (by decide) ?_
    refine W.widen (k := 0) (n := 0) (Nat.le_of_ble_eq_true rfl) (Nat.le_of_ble_eq_true rfl) ?_
    exact W.zret (v := 0) hx hb hr (by decide) (fun t ht hW => ⟨⟨0, (), rfl, (Or.inl ⟨rfl, (by (try simp only [nk_lt, nk_le, nk_eq, nk_wd, nk_c0, nk_c1, nk_c2, nk_c3, nk_c4, nk_c5, nk_c6, nk_c15, nk_c16, nk_c24, nk_c47, nk_c48, nk_c600, nk_c1728, nk_m1, nk_l0, nk_l1, nk_l2, nk_l3, nk_l5, nk_l15, nk_l24, nk_l47] at c_1); omega)⟩), trivial⟩, hS.F ht⟩) hS.2.2 dX10_isSolid_14
  · refine lv_iload_n hx hb dX10_isSolid_4 rfl (lv_at hl 0 rfl) ?_
    refine lv_iconst (v := 4) hx hb dX10_isSolid_5 (by decide) ?_
    refine lv_icmp_ge (tgt := 13) hx hb dX10_isSolid_6 (by decide) (fun c_2 => ?_) (fun c_2 => ?_)
    · refine lv_iconst (v := 0) hx hb dX10_isSolid_13 (by decide) ?_
      refine W.widen (k := 0) (n := 0) (Nat.le_of_ble_eq_true rfl) (Nat.le_of_ble_eq_true rfl) ?_
      exact W.zret (v := 0) hx hb hr (by decide) (fun t ht hW => ⟨⟨0, (), rfl, (Or.inl ⟨rfl, (by (try simp only [nk_lt, nk_le, nk_eq, nk_wd, nk_c0, nk_c1, nk_c2, nk_c3, nk_c4, nk_c5, nk_c6, nk_c15, nk_c16, nk_c24, nk_c47, nk_c48, nk_c600, nk_c1728, nk_m1, nk_l0, nk_l1, nk_l2, nk_l3, nk_l5, nk_l15, nk_l24, nk_l47] at c_1 c_2); omega)⟩), trivial⟩, hS.F ht⟩) hS.2.2 dX10_isSolid_14
    · refine lv_iconst (v := 1) hx hb dX10_isSolid_9 (by decide) ?_
      refine lv_goto (tgt := 14) hx hb dX10_isSolid_10 (by decide) ?_
      refine W.widen (k := 0) (n := 0) (Nat.le_of_ble_eq_true rfl) (Nat.le_of_ble_eq_true rfl) ?_
      exact W.zret (v := 1) hx hb hr (by decide) (fun t ht hW => ⟨⟨1, (), rfl, (Or.inr ⟨rfl, (by (try simp only [nk_lt, nk_le, nk_eq, nk_wd, nk_c0, nk_c1, nk_c2, nk_c3, nk_c4, nk_c5, nk_c6, nk_c15, nk_c16, nk_c24, nk_c47, nk_c48, nk_c600, nk_c1728, nk_m1, nk_l0, nk_l1, nk_l2, nk_l3, nk_l5, nk_l15, nk_l24, nk_l47] at c_1 c_2); omega)⟩), trivial⟩, hS.F ht⟩) hS.2.2 dX10_isSolid_14
set_option maxHeartbeats 4000000 in
set_option maxRecDepth 100000 in
theorem c_X10_isSetOfSolids (l : Launch) (dC : Nat → ClassId) (dI : Nat → Nat → Nat) (cB cI cJ : ClassId) (sz : Nat)  (p0 : Int32) : Met l yX10_isSetOfSolids wsX10_isSetOfSolids ({ frames := 1, cells := 0, slots := 0, locals := 24 }) (va_Pc [.int p0] (fun U => U.heap.size = sz ∧ va_P (dC, dI) vwCl [] U.heap ∧ va_K (dC, dI) vwCl [(cB, .byte), (cI, .int), (cJ, .long)] U ∧ va_D (fun _ => True) [])) (va_Qi (fun (r : Int32) (_ : Unit) => (r = 0 ∧ ¬ (0 ≤ p0.toInt ∧ p0.toInt < 16)) ∨ (r = 1 ∧ (0 ≤ p0.toInt ∧ p0.toInt < 16))) (fun _ _ => True) (va_A [] sz)) 0 0 (va_A [] sz) := by
  refine Met.ofW (cc := cX10_isSetOfSolids) (maxL := 1) (ret := (some .boolean)) (by decide) rfl ?_
  intro p e s m args below meth c s₁ B hml hv
  obtain ⟨rfl, hsz, hP, hK, hD0⟩ := hv
  have hx := B.exec
  have hb := B.bytes
  have hr := B.returns
  have hts := atoms_spec (ws := wsX10_isSetOfSolids) B.pre
  have hown : s.vm.findClass RX10 = some m.cls := findClass_of_methodNamed B.named
  have hlocks := B.notSynchronized
  subst hsz
  have hD := hD0.self (sz := s.heap.size)
  generalize hAe : va_A [] s.heap.size = A at hD ⊢
  have hA : ∀ q : Nat, s.heap.size ≤ q → A q := fun q h => by rw [← hAe]; exact Or.inr h
  have hS : va_S A s.heap s.heap [] := va_S.rf
  have hP : va_P (dC, dI) vwCl [] s.heap := hP
  have hl := lv_entry ([.int p0]) (n := 1) (Nat.le_of_ble_eq_true rfl)
  rw [lg_entry_eq]
  generalize (lg_sl ([.int p0]) ++ List.replicate (1 - (lg_sl ([.int p0])).length) Slot.unset).toArray = ls at hl ⊢
  have hl : lv_has ls 1 [(0, .int p0)] := hl
  refine lv_iload_n hx hb dX10_isSetOfSolids_0 rfl (lv_at hl 0 rfl) ?_
  refine lv_if_lt (tgt := 14) hx hb dX10_isSetOfSolids_1 (by decide) (fun c_1 => ?_) (fun c_1 => ?_)
  · refine lv_iconst (v := 0) hx hb dX10_isSetOfSolids_14 (by decide) ?_
    refine W.widen (k := 0) (n := 0) (Nat.le_of_ble_eq_true rfl) (Nat.le_of_ble_eq_true rfl) ?_
    exact W.zret (v := 0) hx hb hr (by decide) (fun t ht hW => ⟨⟨0, (), rfl, (Or.inl ⟨rfl, (by (try simp only [nk_lt, nk_le, nk_eq, nk_wd, nk_c0, nk_c1, nk_c2, nk_c3, nk_c4, nk_c5, nk_c6, nk_c15, nk_c16, nk_c24, nk_c47, nk_c48, nk_c600, nk_c1728, nk_m1, nk_l0, nk_l1, nk_l2, nk_l3, nk_l5, nk_l15, nk_l24, nk_l47] at c_1); omega)⟩), trivial⟩, hS.F ht⟩) hS.2.2 dX10_isSetOfSolids_15
  · refine lv_iload_n hx hb dX10_isSetOfSolids_4 rfl (lv_at hl 0 rfl) ?_
    refine lv_bipush (v := 16) hx hb dX10_isSetOfSolids_5 (by decide) ?_
    refine lv_icmp_ge (tgt := 14) hx hb dX10_isSetOfSolids_7 (by decide) (fun c_2 => ?_) (fun c_2 => ?_)
    · refine lv_iconst (v := 0) hx hb dX10_isSetOfSolids_14 (by decide) ?_
      refine W.widen (k := 0) (n := 0) (Nat.le_of_ble_eq_true rfl) (Nat.le_of_ble_eq_true rfl) ?_
      exact W.zret (v := 0) hx hb hr (by decide) (fun t ht hW => ⟨⟨0, (), rfl, (Or.inl ⟨rfl, (by (try simp only [nk_lt, nk_le, nk_eq, nk_wd, nk_c0, nk_c1, nk_c2, nk_c3, nk_c4, nk_c5, nk_c6, nk_c15, nk_c16, nk_c24, nk_c47, nk_c48, nk_c600, nk_c1728, nk_m1, nk_l0, nk_l1, nk_l2, nk_l3, nk_l5, nk_l15, nk_l24, nk_l47] at c_1 c_2); omega)⟩), trivial⟩, hS.F ht⟩) hS.2.2 dX10_isSetOfSolids_15
    · refine lv_iconst (v := 1) hx hb dX10_isSetOfSolids_10 (by decide) ?_
      refine lv_goto (tgt := 15) hx hb dX10_isSetOfSolids_11 (by decide) ?_
      refine W.widen (k := 0) (n := 0) (Nat.le_of_ble_eq_true rfl) (Nat.le_of_ble_eq_true rfl) ?_
      exact W.zret (v := 1) hx hb hr (by decide) (fun t ht hW => ⟨⟨1, (), rfl, (Or.inr ⟨rfl, (by (try simp only [nk_lt, nk_le, nk_eq, nk_wd, nk_c0, nk_c1, nk_c2, nk_c3, nk_c4, nk_c5, nk_c6, nk_c15, nk_c16, nk_c24, nk_c47, nk_c48, nk_c600, nk_c1728, nk_m1, nk_l0, nk_l1, nk_l2, nk_l3, nk_l5, nk_l15, nk_l24, nk_l47] at c_1 c_2); omega)⟩), trivial⟩, hS.F ht⟩) hS.2.2 dX10_isSetOfSolids_15
set_option maxHeartbeats 4000000 in
set_option maxRecDepth 100000 in
theorem c_X1_has (l : Launch) (dC : Nat → ClassId) (dI : Nat → Nat → Nat) (cB cI cJ : ClassId) (sz : Nat) (xBag bC bS bX bW bP : Nat) (p0 : Int32) : Met l yX1_has wsX1_has ({ frames := 1, cells := 0, slots := 0, locals := 24 }) (va_Pc [.ref xBag, .int p0] (fun U => U.heap.size = sz ∧ va_P (dC, dI) vwCl [(xBag, .inr (1, [.ref bC, .ref bS, .ref bX, .ref bW, .ref bP, .int 0]))] U.heap ∧ va_K (dC, dI) vwCl [(cB, .byte), (cI, .int), (cJ, .long)] U ∧ va_D (fun _ => True) [(xBag, .inr (1, [.ref bC, .ref bS, .ref bX, .ref bW, .ref bP, .int 0]))])) (va_Qi (fun (r : Int32) (_ : Unit) => r = 0) (fun _ t => va_P (dC, dI) vwCl [(xBag, .inr (1, [.ref bC, .ref bS, .ref bX, .ref bW, .ref bP, .int 0]))] t.heap ∧ va_K (dC, dI) vwCl [(cB, .byte), (cI, .int), (cJ, .long)] t ∧ va_D (va_A [(xBag, .inr (1, [.ref bC, .ref bS, .ref bX, .ref bW, .ref bP, .int 0]))] sz) [(xBag, .inr (1, [.ref bC, .ref bS, .ref bX, .ref bW, .ref bP, .int 0]))]) (va_A [(xBag, .inr (1, [.ref bC, .ref bS, .ref bX, .ref bW, .ref bP, .int 0]))] sz)) 0 0 (va_A [(xBag, .inr (1, [.ref bC, .ref bS, .ref bX, .ref bW, .ref bP, .int 0]))] sz) := by
  refine Met.ofW (cc := cX1_has) (maxL := 2) (ret := (some .boolean)) (by decide) rfl ?_
  intro p e s m args below meth c s₁ B hml hv
  obtain ⟨rfl, hsz, hP, hK, hD0⟩ := hv
  have hx := B.exec
  have hb := B.bytes
  have hr := B.returns
  have hts := atoms_spec (ws := wsX1_has) B.pre
  have hown : s.vm.findClass RX1 = some m.cls := findClass_of_methodNamed B.named
  have hlocks := B.notSynchronized
  have hiX1 : ∀ w ∈ u_ws RX1 TX1 6, w ∈ wsX1_has := by decide +kernel
  subst hsz
  have hD := hD0.self (sz := s.heap.size)
  generalize hAe : va_A [(xBag, .inr (1, [.ref bC, .ref bS, .ref bX, .ref bW, .ref bP, .int 0]))] s.heap.size = A at hD ⊢
  have hA : ∀ q : Nat, s.heap.size ≤ q → A q := fun q h => by rw [← hAe]; exact Or.inr h
  have hS : va_S A s.heap s.heap [] := va_S.rf
  have hP : va_P (dC, dI) vwCl [(xBag, .inr (1, [.ref bC, .ref bS, .ref bX, .ref bW, .ref bP, .int 0]))] s.heap := hP
  have hl := lv_entry ([.ref xBag, .int p0]) (n := 2) (Nat.le_of_ble_eq_true rfl)
  rw [lg_entry_eq]
  generalize (lg_sl ([.ref xBag, .int p0]) ++ List.replicate (2 - (lg_sl ([.ref xBag, .int p0])).length) Slot.unset).toArray = ls at hl ⊢
  have hl : lv_has ls 2 [(0, .ref xBag), (1, .int p0)] := hl
  refine lv_iload_n hx hb dX1_has_0 rfl (lv_at hl 1 rfl) ?_
  refine lv_if_lt (tgt := 22) hx hb dX1_has_1 (by decide) (fun c_1 => ?_) (fun c_1 => ?_)
  · refine lv_iconst (v := 0) hx hb dX1_has_22 (by decide) ?_
    have hP9 := hP.sub (ws' := [(xBag, .inr (1, [.ref bC, .ref bS, .ref bX, .ref bW, .ref bP, .int 0]))]) [0] rfl
    have hD9 := hD.sub (ws' := [(xBag, .inr (1, [.ref bC, .ref bS, .ref bX, .ref bW, .ref bP, .int 0]))]) [0] (by decide) rfl
    refine W.widen (k := 0) (n := 0) (Nat.le_of_ble_eq_true rfl) (Nat.le_of_ble_eq_true rfl) ?_
    exact W.zret (v := 0) hx hb hr (by decide) (fun t ht hW => ⟨⟨0, (), rfl, rfl, by rw [ht]; exact hP9, va_K.moved hW.alike hK, hD9⟩, hS.F ht⟩) hS.2.2 dX1_has_23
  · refine lv_iload_n hx hb dX1_has_4 rfl (lv_at hl 1 rfl) ?_
    refine lv_aload_n hx hb dX1_has_5 rfl (lv_at hl 0 rfl) ?_
    refine va_get (D := (dC, dI)) (ci := 1) (v := .int 0) (C := RX1) (T := TX1) (N := 6) hx hb hts hiX1 hown hK hP 0 rfl rfl 5 (by decide) (hts (.fieldLink RX1 27 "ScissorsTable$Bag" "size" "I") (by decide +kernel)) (fun _ h9 => h9) rfl dX1_has_6 ?_
    refine lv_icmp_ge (tgt := 22) hx hb dX1_has_9 (by decide) (fun c_2 => ?_) (fun c_2 => ?_)
    · refine lv_iconst (v := 0) hx hb dX1_has_22 (by decide) ?_
      have hP9 := hP.sub (ws' := [(xBag, .inr (1, [.ref bC, .ref bS, .ref bX, .ref bW, .ref bP, .int 0]))]) [0] rfl
      have hD9 := hD.sub (ws' := [(xBag, .inr (1, [.ref bC, .ref bS, .ref bX, .ref bW, .ref bP, .int 0]))]) [0] (by decide) rfl
      refine W.widen (k := 0) (n := 0) (Nat.le_of_ble_eq_true rfl) (Nat.le_of_ble_eq_true rfl) ?_
      exact W.zret (v := 0) hx hb hr (by decide) (fun t ht hW => ⟨⟨0, (), rfl, rfl, by rw [ht]; exact hP9, va_K.moved hW.alike hK, hD9⟩, hS.F ht⟩) hS.2.2 dX1_has_23
    · exact (by (try simp only [nk_lt, nk_le, nk_eq, nk_wd, nk_c0, nk_c1, nk_c2, nk_c3, nk_c4, nk_c5, nk_c6, nk_c15, nk_c16, nk_c24, nk_c47, nk_c48, nk_c600, nk_c1728, nk_m1, nk_l0, nk_l1, nk_l2, nk_l3, nk_l5, nk_l15, nk_l24, nk_l47] at c_1 c_2); exfalso; omega)
set_option maxHeartbeats 4000000 in
set_option maxRecDepth 100000 in
theorem c_X1_sixOfSolid (l : Launch) (dC : Nat → ClassId) (dI : Nat → Nat → Nat) (cB cI cJ : ClassId) (sz : Nat) (xBag bC bS bX bW bP : Nat) (p0 : Int32) : Met l yX1_sixOfSolid wsX1_sixOfSolid ({ frames := 1, cells := 0, slots := 0, locals := 24 }) (va_Pc [.ref xBag, .int p0] (fun U => U.heap.size = sz ∧ va_P (dC, dI) vwCl [(xBag, .inr (1, [.ref bC, .ref bS, .ref bX, .ref bW, .ref bP, .int 0]))] U.heap ∧ va_K (dC, dI) vwCl [(cB, .byte), (cI, .int), (cJ, .long)] U ∧ va_D (fun _ => True) [(xBag, .inr (1, [.ref bC, .ref bS, .ref bX, .ref bW, .ref bP, .int 0]))])) (va_Qi (fun (r : Int32) (_ : Unit) => r = 0) (fun _ t => va_P (dC, dI) vwCl [(xBag, .inr (1, [.ref bC, .ref bS, .ref bX, .ref bW, .ref bP, .int 0]))] t.heap ∧ va_K (dC, dI) vwCl [(cB, .byte), (cI, .int), (cJ, .long)] t ∧ va_D (va_A [(xBag, .inr (1, [.ref bC, .ref bS, .ref bX, .ref bW, .ref bP, .int 0]))] sz) [(xBag, .inr (1, [.ref bC, .ref bS, .ref bX, .ref bW, .ref bP, .int 0]))]) (va_A [(xBag, .inr (1, [.ref bC, .ref bS, .ref bX, .ref bW, .ref bP, .int 0]))] sz)) 0 0 (va_A [(xBag, .inr (1, [.ref bC, .ref bS, .ref bX, .ref bW, .ref bP, .int 0]))] sz) := by
  refine Met.ofW (cc := cX1_sixOfSolid) (maxL := 4) (ret := (some .int)) (by decide) rfl ?_
  intro p e s m args below meth c s₁ B hml hv
  obtain ⟨rfl, hsz, hP, hK, hD0⟩ := hv
  have hx := B.exec
  have hb := B.bytes
  have hr := B.returns
  have hts := atoms_spec (ws := wsX1_sixOfSolid) B.pre
  have hown : s.vm.findClass RX1 = some m.cls := findClass_of_methodNamed B.named
  have hlocks := B.notSynchronized
  have hiX1 : ∀ w ∈ u_ws RX1 TX1 6, w ∈ wsX1_sixOfSolid := by decide +kernel
  subst hsz
  have hD := hD0.self (sz := s.heap.size)
  generalize hAe : va_A [(xBag, .inr (1, [.ref bC, .ref bS, .ref bX, .ref bW, .ref bP, .int 0]))] s.heap.size = A at hD ⊢
  have hA : ∀ q : Nat, s.heap.size ≤ q → A q := fun q h => by rw [← hAe]; exact Or.inr h
  have hS : va_S A s.heap s.heap [] := va_S.rf
  have hP : va_P (dC, dI) vwCl [(xBag, .inr (1, [.ref bC, .ref bS, .ref bX, .ref bW, .ref bP, .int 0]))] s.heap := hP
  have hl := lv_entry ([.ref xBag, .int p0]) (n := 4) (Nat.le_of_ble_eq_true rfl)
  rw [lg_entry_eq]
  generalize (lg_sl ([.ref xBag, .int p0]) ++ List.replicate (4 - (lg_sl ([.ref xBag, .int p0])).length) Slot.unset).toArray = ls at hl ⊢
  have hl : lv_has ls 4 [(0, .ref xBag), (1, .int p0)] := hl
  refine lv_iconst (v := 0) hx hb dX1_sixOfSolid_0 (by decide) ?_
  refine lv_istore_n (lv' := [(2, .int 0), (0, .ref xBag), (1, .int p0)]) hx hb dX1_sixOfSolid_1 rfl hl (by decide) rfl (fun ls hl => ?_)
  refine lv_iconst (v := 0) hx hb dX1_sixOfSolid_2 (by decide) ?_
  refine lv_istore_n (lv' := [(3, .int 0), (2, .int 0), (0, .ref xBag), (1, .int p0)]) hx hb dX1_sixOfSolid_3 rfl hl (by decide) rfl (fun ls hl => ?_)
  refine lv_iload_n hx hb dX1_sixOfSolid_4 rfl (lv_at hl 0 rfl) ?_
  refine lv_aload_n hx hb dX1_sixOfSolid_5 rfl (lv_at hl 2 rfl) ?_
  refine va_get (D := (dC, dI)) (ci := 1) (v := .int 0) (C := RX1) (T := TX1) (N := 6) hx hb hts hiX1 hown hK hP 0 rfl rfl 5 (by decide) (hts (.fieldLink RX1 27 "ScissorsTable$Bag" "size" "I") (by decide +kernel)) (fun _ h9 => h9) rfl dX1_sixOfSolid_6 ?_
  refine lv_icmp_ge (tgt := 41) hx hb dX1_sixOfSolid_9 (by decide) (fun _ => ?_) (fun c => absurd (by decide) c)
  refine lv_iload_n hx hb dX1_sixOfSolid_41 rfl (lv_at hl 1 rfl) ?_
  have hP9 := hP.sub (ws' := [(xBag, .inr (1, [.ref bC, .ref bS, .ref bX, .ref bW, .ref bP, .int 0]))]) [0] rfl
  have hD9 := hD.sub (ws' := [(xBag, .inr (1, [.ref bC, .ref bS, .ref bX, .ref bW, .ref bP, .int 0]))]) [0] (by decide) rfl
  refine W.widen (k := 0) (n := 0) (Nat.le_of_ble_eq_true rfl) (Nat.le_of_ble_eq_true rfl) ?_
  exact W.iret (v := 0) hx hb hr (fun t ht hW => ⟨⟨0, (), rfl, rfl, by rw [ht]; exact hP9, va_K.moved hW.alike hK, hD9⟩, hS.F ht⟩) hS.2.2 dX1_sixOfSolid_42
set_option maxHeartbeats 4000000 in
set_option maxRecDepth 100000 in
theorem c_X1_tetsOfSolid (l : Launch) (dC : Nat → ClassId) (dI : Nat → Nat → Nat) (cB cI cJ : ClassId) (sz : Nat) (xBag bC bS bX bW bP : Nat) (p0 : Int32) : Met l yX1_tetsOfSolid wsX1_tetsOfSolid ({ frames := 1, cells := 0, slots := 0, locals := 24 }) (va_Pc [.ref xBag, .int p0] (fun U => U.heap.size = sz ∧ va_P (dC, dI) vwCl [(xBag, .inr (1, [.ref bC, .ref bS, .ref bX, .ref bW, .ref bP, .int 0]))] U.heap ∧ va_K (dC, dI) vwCl [(cB, .byte), (cI, .int), (cJ, .long)] U ∧ va_D (fun _ => True) [(xBag, .inr (1, [.ref bC, .ref bS, .ref bX, .ref bW, .ref bP, .int 0]))])) (va_Qi (fun (r : Int32) (_ : Unit) => r = 0) (fun _ t => va_P (dC, dI) vwCl [(xBag, .inr (1, [.ref bC, .ref bS, .ref bX, .ref bW, .ref bP, .int 0]))] t.heap ∧ va_K (dC, dI) vwCl [(cB, .byte), (cI, .int), (cJ, .long)] t ∧ va_D (va_A [(xBag, .inr (1, [.ref bC, .ref bS, .ref bX, .ref bW, .ref bP, .int 0]))] sz) [(xBag, .inr (1, [.ref bC, .ref bS, .ref bX, .ref bW, .ref bP, .int 0]))]) (va_A [(xBag, .inr (1, [.ref bC, .ref bS, .ref bX, .ref bW, .ref bP, .int 0]))] sz)) 0 0 (va_A [(xBag, .inr (1, [.ref bC, .ref bS, .ref bX, .ref bW, .ref bP, .int 0]))] sz) := by
  refine Met.ofW (cc := cX1_tetsOfSolid) (maxL := 4) (ret := (some .int)) (by decide) rfl ?_
  intro p e s m args below meth c s₁ B hml hv
  obtain ⟨rfl, hsz, hP, hK, hD0⟩ := hv
  have hx := B.exec
  have hb := B.bytes
  have hr := B.returns
  have hts := atoms_spec (ws := wsX1_tetsOfSolid) B.pre
  have hown : s.vm.findClass RX1 = some m.cls := findClass_of_methodNamed B.named
  have hlocks := B.notSynchronized
  have hiX1 : ∀ w ∈ u_ws RX1 TX1 6, w ∈ wsX1_tetsOfSolid := by decide +kernel
  subst hsz
  have hD := hD0.self (sz := s.heap.size)
  generalize hAe : va_A [(xBag, .inr (1, [.ref bC, .ref bS, .ref bX, .ref bW, .ref bP, .int 0]))] s.heap.size = A at hD ⊢
  have hA : ∀ q : Nat, s.heap.size ≤ q → A q := fun q h => by rw [← hAe]; exact Or.inr h
  have hS : va_S A s.heap s.heap [] := va_S.rf
  have hP : va_P (dC, dI) vwCl [(xBag, .inr (1, [.ref bC, .ref bS, .ref bX, .ref bW, .ref bP, .int 0]))] s.heap := hP
  have hl := lv_entry ([.ref xBag, .int p0]) (n := 4) (Nat.le_of_ble_eq_true rfl)
  rw [lg_entry_eq]
  generalize (lg_sl ([.ref xBag, .int p0]) ++ List.replicate (4 - (lg_sl ([.ref xBag, .int p0])).length) Slot.unset).toArray = ls at hl ⊢
  have hl : lv_has ls 4 [(0, .ref xBag), (1, .int p0)] := hl
  refine lv_iconst (v := 0) hx hb dX1_tetsOfSolid_0 (by decide) ?_
  refine lv_istore_n (lv' := [(2, .int 0), (0, .ref xBag), (1, .int p0)]) hx hb dX1_tetsOfSolid_1 rfl hl (by decide) rfl (fun ls hl => ?_)
  refine lv_iconst (v := 0) hx hb dX1_tetsOfSolid_2 (by decide) ?_
  refine lv_istore_n (lv' := [(3, .int 0), (2, .int 0), (0, .ref xBag), (1, .int p0)]) hx hb dX1_tetsOfSolid_3 rfl hl (by decide) rfl (fun ls hl => ?_)
  refine lv_iload_n hx hb dX1_tetsOfSolid_4 rfl (lv_at hl 0 rfl) ?_
  refine lv_aload_n hx hb dX1_tetsOfSolid_5 rfl (lv_at hl 2 rfl) ?_
  refine va_get (D := (dC, dI)) (ci := 1) (v := .int 0) (C := RX1) (T := TX1) (N := 6) hx hb hts hiX1 hown hK hP 0 rfl rfl 5 (by decide) (hts (.fieldLink RX1 27 "ScissorsTable$Bag" "size" "I") (by decide +kernel)) (fun _ h9 => h9) rfl dX1_tetsOfSolid_6 ?_
  refine lv_icmp_ge (tgt := 36) hx hb dX1_tetsOfSolid_9 (by decide) (fun _ => ?_) (fun c => absurd (by decide) c)
  refine lv_iload_n hx hb dX1_tetsOfSolid_36 rfl (lv_at hl 1 rfl) ?_
  have hP9 := hP.sub (ws' := [(xBag, .inr (1, [.ref bC, .ref bS, .ref bX, .ref bW, .ref bP, .int 0]))]) [0] rfl
  have hD9 := hD.sub (ws' := [(xBag, .inr (1, [.ref bC, .ref bS, .ref bX, .ref bW, .ref bP, .int 0]))]) [0] (by decide) rfl
  refine W.widen (k := 0) (n := 0) (Nat.le_of_ble_eq_true rfl) (Nat.le_of_ble_eq_true rfl) ?_
  exact W.iret (v := 0) hx hb hr (fun t ht hW => ⟨⟨0, (), rfl, rfl, by rw [ht]; exact hP9, va_K.moved hW.alike hK, hD9⟩, hS.F ht⟩) hS.2.2 dX1_tetsOfSolid_37
set_option maxHeartbeats 4000000 in
set_option maxRecDepth 100000 in
theorem c_X1_greatestSix (l : Launch) (dC : Nat → ClassId) (dI : Nat → Nat → Nat) (cB cI cJ : ClassId) (sz : Nat) (xBag bC bS bX bW bP : Nat) : Met l yX1_greatestSix wsX1_greatestSix ({ frames := 1, cells := 0, slots := 0, locals := 24 }) (va_Pc [.ref xBag] (fun U => U.heap.size = sz ∧ va_P (dC, dI) vwCl [(xBag, .inr (1, [.ref bC, .ref bS, .ref bX, .ref bW, .ref bP, .int 0]))] U.heap ∧ va_K (dC, dI) vwCl [(cB, .byte), (cI, .int), (cJ, .long)] U ∧ va_D (fun _ => True) [(xBag, .inr (1, [.ref bC, .ref bS, .ref bX, .ref bW, .ref bP, .int 0]))])) (va_Qi (fun (r : Int32) (_ : Unit) => r = 0) (fun _ _ => True) (va_A [(xBag, .inr (1, [.ref bC, .ref bS, .ref bX, .ref bW, .ref bP, .int 0]))] sz)) 0 0 (va_A [(xBag, .inr (1, [.ref bC, .ref bS, .ref bX, .ref bW, .ref bP, .int 0]))] sz) := by
  refine Met.ofW (cc := cX1_greatestSix) (maxL := 3) (ret := (some .int)) (by decide) rfl ?_
  intro p e s m args below meth c s₁ B hml hv
  obtain ⟨rfl, hsz, hP, hK, hD0⟩ := hv
  have hx := B.exec
  have hb := B.bytes
  have hr := B.returns
  have hts := atoms_spec (ws := wsX1_greatestSix) B.pre
  have hown : s.vm.findClass RX1 = some m.cls := findClass_of_methodNamed B.named
  have hlocks := B.notSynchronized
  have hiX1 : ∀ w ∈ u_ws RX1 TX1 6, w ∈ wsX1_greatestSix := by decide +kernel
  subst hsz
  have hD := hD0.self (sz := s.heap.size)
  generalize hAe : va_A [(xBag, .inr (1, [.ref bC, .ref bS, .ref bX, .ref bW, .ref bP, .int 0]))] s.heap.size = A at hD ⊢
  have hA : ∀ q : Nat, s.heap.size ≤ q → A q := fun q h => by rw [← hAe]; exact Or.inr h
  have hS : va_S A s.heap s.heap [] := va_S.rf
  have hP : va_P (dC, dI) vwCl [(xBag, .inr (1, [.ref bC, .ref bS, .ref bX, .ref bW, .ref bP, .int 0]))] s.heap := hP
  have hl := lv_entry ([.ref xBag]) (n := 3) (Nat.le_of_ble_eq_true rfl)
  rw [lg_entry_eq]
  generalize (lg_sl ([.ref xBag]) ++ List.replicate (3 - (lg_sl ([.ref xBag])).length) Slot.unset).toArray = ls at hl ⊢
  have hl : lv_has ls 3 [(0, .ref xBag)] := hl
  refine lv_iconst (v := 0) hx hb dX1_greatestSix_0 (by decide) ?_
  refine lv_istore_n (lv' := [(1, .int 0), (0, .ref xBag)]) hx hb dX1_greatestSix_1 rfl hl (by decide) rfl (fun ls hl => ?_)
  refine lv_iconst (v := 0) hx hb dX1_greatestSix_2 (by decide) ?_
  refine lv_istore_n (lv' := [(2, .int 0), (1, .int 0), (0, .ref xBag)]) hx hb dX1_greatestSix_3 rfl hl (by decide) rfl (fun ls hl => ?_)
  refine lv_iload_n hx hb dX1_greatestSix_4 rfl (lv_at hl 0 rfl) ?_
  refine lv_aload_n hx hb dX1_greatestSix_5 rfl (lv_at hl 2 rfl) ?_
  refine va_get (D := (dC, dI)) (ci := 1) (v := .int 0) (C := RX1) (T := TX1) (N := 6) hx hb hts hiX1 hown hK hP 0 rfl rfl 5 (by decide) (hts (.fieldLink RX1 27 "ScissorsTable$Bag" "size" "I") (by decide +kernel)) (fun _ h9 => h9) rfl dX1_greatestSix_6 ?_
  refine lv_icmp_ge (tgt := 29) hx hb dX1_greatestSix_9 (by decide) (fun _ => ?_) (fun c => absurd (by decide) c)
  refine lv_iload_n hx hb dX1_greatestSix_29 rfl (lv_at hl 1 rfl) ?_
  refine W.widen (k := 0) (n := 0) (Nat.le_of_ble_eq_true rfl) (Nat.le_of_ble_eq_true rfl) ?_
  exact W.iret (v := 0) hx hb hr (fun t ht hW => ⟨⟨0, (), rfl, rfl, trivial⟩, hS.F ht⟩) hS.2.2 dX1_greatestSix_30
set_option maxHeartbeats 4000000 in
set_option maxRecDepth 100000 in
theorem c_X8_clear (l : Launch) (dC : Nat → ClassId) (dI : Nat → Nat → Nat) (cB cI cJ : ClassId) (sz : Nat) (xSum sM sP sA : Nat) : Met l yX8_clear wsX8_clear ({ frames := 1, cells := 0, slots := 0, locals := 24 }) (va_Pc [.ref xSum] (fun U => U.heap.size = sz ∧ va_P (dC, dI) vwCl [(xSum, .inr (8, [.ref sM, .ref sP, .ref sA, .int 0]))] U.heap ∧ va_K (dC, dI) vwCl [(cB, .byte), (cI, .int), (cJ, .long)] U ∧ va_D (fun _ => True) [(xSum, .inr (8, [.ref sM, .ref sP, .ref sA, .int 0]))])) (va_Qv (fun _ : Unit => True) (fun _ t => va_P (dC, dI) vwCl [(xSum, .inr (8, [.ref sM, .ref sP, .ref sA, .int 0]))] t.heap ∧ va_K (dC, dI) vwCl [(cB, .byte), (cI, .int), (cJ, .long)] t ∧ va_D (va_A [(xSum, .inr (8, [.ref sM, .ref sP, .ref sA, .int 0]))] sz) [(xSum, .inr (8, [.ref sM, .ref sP, .ref sA, .int 0]))]) (va_A [(xSum, .inr (8, [.ref sM, .ref sP, .ref sA, .int 0]))] sz)) 0 0 (va_A [(xSum, .inr (8, [.ref sM, .ref sP, .ref sA, .int 0]))] sz) := by
  refine Met.ofW (cc := cX8_clear) (maxL := 1) (ret := none) (by decide) rfl ?_
  intro p e s m args below meth c s₁ B hml hv
  obtain ⟨rfl, hsz, hP, hK, hD0⟩ := hv
  have hx := B.exec
  have hb := B.bytes
  have hr := B.returns
  have hts := atoms_spec (ws := wsX8_clear) B.pre
  have hown : s.vm.findClass RX8 = some m.cls := findClass_of_methodNamed B.named
  have hlocks := B.notSynchronized
  have hiX8 : ∀ w ∈ u_ws RX8 TX8 4, w ∈ wsX8_clear := by decide +kernel
  subst hsz
  have hD := hD0.self (sz := s.heap.size)
  generalize hAe : va_A [(xSum, .inr (8, [.ref sM, .ref sP, .ref sA, .int 0]))] s.heap.size = A at hD ⊢
  have hA : ∀ q : Nat, s.heap.size ≤ q → A q := fun q h => by rw [← hAe]; exact Or.inr h
  have hS : va_S A s.heap s.heap [] := va_S.rf
  have hP : va_P (dC, dI) vwCl [(xSum, .inr (8, [.ref sM, .ref sP, .ref sA, .int 0]))] s.heap := hP
  have hl := lv_entry ([.ref xSum]) (n := 1) (Nat.le_of_ble_eq_true rfl)
  rw [lg_entry_eq]
  generalize (lg_sl ([.ref xSum]) ++ List.replicate (1 - (lg_sl ([.ref xSum])).length) Slot.unset).toArray = ls at hl ⊢
  have hl : lv_has ls 1 [(0, .ref xSum)] := hl
  refine lv_aload_n hx hb dX8_clear_0 rfl (lv_at hl 0 rfl) ?_
  refine lv_iconst (v := 0) hx hb dX8_clear_1 (by decide) ?_
  refine va_put (D := (dC, dI)) (ci := 8) (v := .int 0) (ty := .int) (C := RX8) (T := TX8) (N := 4) hx hb hts hiX8 tyX8 tyX8_ok nmX8 hown hK hP hD hS 0 rfl rfl 3 (by decide) (hts (.fieldLink RX8 21 "ScissorsTable$Sums" "size" "I") (by decide +kernel)) (fun _ h9 => h9) rfl (by decide +kernel) rfl rfl (Nat.le_of_ble_eq_true rfl) dX8_clear_2 (fun H locs hP hD hS => ?_)
  have hP : va_P (dC, dI) vwCl [(xSum, .inr (8, [.ref sM, .ref sP, .ref sA, .int 0]))] H := hP
  have hD : va_D A [(xSum, .inr (8, [.ref sM, .ref sP, .ref sA, .int 0]))] := hD
  have hP9 := hP.sub (ws' := [(xSum, .inr (8, [.ref sM, .ref sP, .ref sA, .int 0]))]) [0] rfl
  have hD9 := hD.sub (ws' := [(xSum, .inr (8, [.ref sM, .ref sP, .ref sA, .int 0]))]) [0] (by decide) rfl
  refine W.widen (k := 0) (n := 0) (Nat.le_of_ble_eq_true rfl) (Nat.le_of_ble_eq_true rfl) ?_
  exact W.vret hx hb hr (fun t ht hW => ⟨⟨(), rfl, trivial, by rw [ht]; exact hP9, va_K.moved hW.alike hK, hD9⟩, hS.F ht⟩) hS.2.2 dX8_clear_5
set_option maxHeartbeats 4000000 in
set_option maxRecDepth 100000 in
theorem c_X8_terms (l : Launch) (dC : Nat → ClassId) (dI : Nat → Nat → Nat) (cB cI cJ : ClassId) (sz : Nat) (xSum sM sP sA : Nat) (p0 : Int32) : Met l yX8_terms wsX8_terms ({ frames := 1, cells := 0, slots := 0, locals := 24 }) (va_Pc [.ref xSum, .int p0] (fun U => U.heap.size = sz ∧ va_P (dC, dI) vwCl [(xSum, .inr (8, [.ref sM, .ref sP, .ref sA, .int 0]))] U.heap ∧ va_K (dC, dI) vwCl [(cB, .byte), (cI, .int), (cJ, .long)] U ∧ va_D (fun _ => True) [(xSum, .inr (8, [.ref sM, .ref sP, .ref sA, .int 0]))])) (va_Qi (fun (r : Int32) (_ : Unit) => r = 0) (fun _ _ => True) (va_A [(xSum, .inr (8, [.ref sM, .ref sP, .ref sA, .int 0]))] sz)) 0 0 (va_A [(xSum, .inr (8, [.ref sM, .ref sP, .ref sA, .int 0]))] sz) := by
  refine Met.ofW (cc := cX8_terms) (maxL := 4) (ret := (some .int)) (by decide) rfl ?_
  intro p e s m args below meth c s₁ B hml hv
  obtain ⟨rfl, hsz, hP, hK, hD0⟩ := hv
  have hx := B.exec
  have hb := B.bytes
  have hr := B.returns
  have hts := atoms_spec (ws := wsX8_terms) B.pre
  have hown : s.vm.findClass RX8 = some m.cls := findClass_of_methodNamed B.named
  have hlocks := B.notSynchronized
  have hiX8 : ∀ w ∈ u_ws RX8 TX8 4, w ∈ wsX8_terms := by decide +kernel
  subst hsz
  have hD := hD0.self (sz := s.heap.size)
  generalize hAe : va_A [(xSum, .inr (8, [.ref sM, .ref sP, .ref sA, .int 0]))] s.heap.size = A at hD ⊢
  have hA : ∀ q : Nat, s.heap.size ≤ q → A q := fun q h => by rw [← hAe]; exact Or.inr h
  have hS : va_S A s.heap s.heap [] := va_S.rf
  have hP : va_P (dC, dI) vwCl [(xSum, .inr (8, [.ref sM, .ref sP, .ref sA, .int 0]))] s.heap := hP
  have hl := lv_entry ([.ref xSum, .int p0]) (n := 4) (Nat.le_of_ble_eq_true rfl)
  rw [lg_entry_eq]
  generalize (lg_sl ([.ref xSum, .int p0]) ++ List.replicate (4 - (lg_sl ([.ref xSum, .int p0])).length) Slot.unset).toArray = ls at hl ⊢
  have hl : lv_has ls 4 [(0, .ref xSum), (1, .int p0)] := hl
  refine lv_iconst (v := 0) hx hb dX8_terms_0 (by decide) ?_
  refine lv_istore_n (lv' := [(2, .int 0), (0, .ref xSum), (1, .int p0)]) hx hb dX8_terms_1 rfl hl (by decide) rfl (fun ls hl => ?_)
  refine lv_iconst (v := 0) hx hb dX8_terms_2 (by decide) ?_
  refine lv_istore_n (lv' := [(3, .int 0), (2, .int 0), (0, .ref xSum), (1, .int p0)]) hx hb dX8_terms_3 rfl hl (by decide) rfl (fun ls hl => ?_)
  refine lv_iload_n hx hb dX8_terms_4 rfl (lv_at hl 0 rfl) ?_
  refine lv_aload_n hx hb dX8_terms_5 rfl (lv_at hl 2 rfl) ?_
  refine va_get (D := (dC, dI)) (ci := 8) (v := .int 0) (C := RX8) (T := TX8) (N := 4) hx hb hts hiX8 hown hK hP 0 rfl rfl 3 (by decide) (hts (.fieldLink RX8 21 "ScissorsTable$Sums" "size" "I") (by decide +kernel)) (fun _ h9 => h9) rfl dX8_terms_6 ?_
  refine lv_icmp_ge (tgt := 35) hx hb dX8_terms_9 (by decide) (fun _ => ?_) (fun c => absurd (by decide) c)
  refine lv_iload_n hx hb dX8_terms_35 rfl (lv_at hl 1 rfl) ?_
  refine W.widen (k := 0) (n := 0) (Nat.le_of_ble_eq_true rfl) (Nat.le_of_ble_eq_true rfl) ?_
  exact W.iret (v := 0) hx hb hr (fun t ht hW => ⟨⟨0, (), rfl, rfl, trivial⟩, hS.F ht⟩) hS.2.2 dX8_terms_36
set_option maxHeartbeats 4000000 in
set_option maxRecDepth 100000 in
theorem c_X8_rowOfTerm (l : Launch) (dC : Nat → ClassId) (dI : Nat → Nat → Nat) (cB cI cJ : ClassId) (sz : Nat) (xSum sM sP sA : Nat) (p0 p1 : Int32) : Met l yX8_rowOfTerm wsX8_rowOfTerm ({ frames := 1, cells := 0, slots := 0, locals := 24 }) (va_Pc [.ref xSum, .int p0, .int p1] (fun U => U.heap.size = sz ∧ va_P (dC, dI) vwCl [(xSum, .inr (8, [.ref sM, .ref sP, .ref sA, .int 0]))] U.heap ∧ va_K (dC, dI) vwCl [(cB, .byte), (cI, .int), (cJ, .long)] U ∧ va_D (fun _ => True) [(xSum, .inr (8, [.ref sM, .ref sP, .ref sA, .int 0]))])) (va_Qi (fun (r : Int32) (_ : Unit) => r = (-1)) (fun _ t => va_P (dC, dI) vwCl [(xSum, .inr (8, [.ref sM, .ref sP, .ref sA, .int 0]))] t.heap ∧ va_K (dC, dI) vwCl [(cB, .byte), (cI, .int), (cJ, .long)] t ∧ va_D (va_A [(xSum, .inr (8, [.ref sM, .ref sP, .ref sA, .int 0]))] sz) [(xSum, .inr (8, [.ref sM, .ref sP, .ref sA, .int 0]))]) (va_A [(xSum, .inr (8, [.ref sM, .ref sP, .ref sA, .int 0]))] sz)) 0 0 (va_A [(xSum, .inr (8, [.ref sM, .ref sP, .ref sA, .int 0]))] sz) := by
  refine Met.ofW (cc := cX8_rowOfTerm) (maxL := 5) (ret := (some .int)) (by decide) rfl ?_
  intro p e s m args below meth c s₁ B hml hv
  obtain ⟨rfl, hsz, hP, hK, hD0⟩ := hv
  have hx := B.exec
  have hb := B.bytes
  have hr := B.returns
  have hts := atoms_spec (ws := wsX8_rowOfTerm) B.pre
  have hown : s.vm.findClass RX8 = some m.cls := findClass_of_methodNamed B.named
  have hlocks := B.notSynchronized
  have hiX8 : ∀ w ∈ u_ws RX8 TX8 4, w ∈ wsX8_rowOfTerm := by decide +kernel
  subst hsz
  have hD := hD0.self (sz := s.heap.size)
  generalize hAe : va_A [(xSum, .inr (8, [.ref sM, .ref sP, .ref sA, .int 0]))] s.heap.size = A at hD ⊢
  have hA : ∀ q : Nat, s.heap.size ≤ q → A q := fun q h => by rw [← hAe]; exact Or.inr h
  have hS : va_S A s.heap s.heap [] := va_S.rf
  have hP : va_P (dC, dI) vwCl [(xSum, .inr (8, [.ref sM, .ref sP, .ref sA, .int 0]))] s.heap := hP
  have hl := lv_entry ([.ref xSum, .int p0, .int p1]) (n := 5) (Nat.le_of_ble_eq_true rfl)
  rw [lg_entry_eq]
  generalize (lg_sl ([.ref xSum, .int p0, .int p1]) ++ List.replicate (5 - (lg_sl ([.ref xSum, .int p0, .int p1])).length) Slot.unset).toArray = ls at hl ⊢
  have hl : lv_has ls 5 [(0, .ref xSum), (1, .int p0), (2, .int p1)] := hl
  refine lv_iconst (v := 0) hx hb dX8_rowOfTerm_0 (by decide) ?_
  refine lv_istore_n (lv' := [(3, .int 0), (0, .ref xSum), (1, .int p0), (2, .int p1)]) hx hb dX8_rowOfTerm_1 rfl hl (by decide) rfl (fun ls hl => ?_)
  refine lv_iconst (v := 0) hx hb dX8_rowOfTerm_2 (by decide) ?_
  refine lv_istore (lv' := [(4, .int 0), (3, .int 0), (0, .ref xSum), (1, .int p0), (2, .int p1)]) hx hb dX8_rowOfTerm_3 hl (by decide) rfl (fun ls hl => ?_)
  refine lv_iload hx hb dX8_rowOfTerm_5 (lv_at hl 0 rfl) ?_
  refine lv_aload_n hx hb dX8_rowOfTerm_7 rfl (lv_at hl 2 rfl) ?_
  refine va_get (D := (dC, dI)) (ci := 8) (v := .int 0) (C := RX8) (T := TX8) (N := 4) hx hb hts hiX8 hown hK hP 0 rfl rfl 3 (by decide) (hts (.fieldLink RX8 21 "ScissorsTable$Sums" "size" "I") (by decide +kernel)) (fun _ h9 => h9) rfl dX8_rowOfTerm_8 ?_
  refine lv_icmp_ge (tgt := 41) hx hb dX8_rowOfTerm_11 (by decide) (fun _ => ?_) (fun c => absurd (by decide) c)
  refine lv_iconst (v := (-1)) hx hb dX8_rowOfTerm_41 (by decide) ?_
  have hP9 := hP.sub (ws' := [(xSum, .inr (8, [.ref sM, .ref sP, .ref sA, .int 0]))]) [0] rfl
  have hD9 := hD.sub (ws' := [(xSum, .inr (8, [.ref sM, .ref sP, .ref sA, .int 0]))]) [0] (by decide) rfl
  refine W.widen (k := 0) (n := 0) (Nat.le_of_ble_eq_true rfl) (Nat.le_of_ble_eq_true rfl) ?_
  exact W.iret (v := (-1)) hx hb hr (fun t ht hW => ⟨⟨(-1), (), rfl, rfl, by rw [ht]; exact hP9, va_K.moved hW.alike hK, hD9⟩, hS.F ht⟩) hS.2.2 dX8_rowOfTerm_42
set_option maxHeartbeats 4000000 in
set_option maxRecDepth 100000 in
theorem c_X8_firstUnlike (l : Launch) (dC : Nat → ClassId) (dI : Nat → Nat → Nat) (cB cI cJ : ClassId) (sz : Nat) (xSum sM sP sA : Nat) (p0 p1 : Int32) : Met l yX8_firstUnlike wsX8_firstUnlike ({ frames := 1, cells := 0, slots := 0, locals := 24 }) (va_Pc [.ref xSum, .int p0, .int p1] (fun U => U.heap.size = sz ∧ va_P (dC, dI) vwCl [(xSum, .inr (8, [.ref sM, .ref sP, .ref sA, .int 0]))] U.heap ∧ va_K (dC, dI) vwCl [(cB, .byte), (cI, .int), (cJ, .long)] U ∧ va_D (fun _ => True) [(xSum, .inr (8, [.ref sM, .ref sP, .ref sA, .int 0]))])) (va_Qi (fun (r : Int32) (_ : Unit) => r = (-1)) (fun _ t => va_P (dC, dI) vwCl [(xSum, .inr (8, [.ref sM, .ref sP, .ref sA, .int 0]))] t.heap ∧ va_K (dC, dI) vwCl [(cB, .byte), (cI, .int), (cJ, .long)] t ∧ va_D (va_A [(xSum, .inr (8, [.ref sM, .ref sP, .ref sA, .int 0]))] sz) [(xSum, .inr (8, [.ref sM, .ref sP, .ref sA, .int 0]))]) (va_A [(xSum, .inr (8, [.ref sM, .ref sP, .ref sA, .int 0]))] sz)) 0 0 (va_A [(xSum, .inr (8, [.ref sM, .ref sP, .ref sA, .int 0]))] sz) := by
  refine Met.ofW (cc := cX8_firstUnlike) (maxL := 4) (ret := (some .int)) (by decide) rfl ?_
  intro p e s m args below meth c s₁ B hml hv
  obtain ⟨rfl, hsz, hP, hK, hD0⟩ := hv
  have hx := B.exec
  have hb := B.bytes
  have hr := B.returns
  have hts := atoms_spec (ws := wsX8_firstUnlike) B.pre
  have hown : s.vm.findClass RX8 = some m.cls := findClass_of_methodNamed B.named
  have hlocks := B.notSynchronized
  have hiX8 : ∀ w ∈ u_ws RX8 TX8 4, w ∈ wsX8_firstUnlike := by decide +kernel
  subst hsz
  have hD := hD0.self (sz := s.heap.size)
  generalize hAe : va_A [(xSum, .inr (8, [.ref sM, .ref sP, .ref sA, .int 0]))] s.heap.size = A at hD ⊢
  have hA : ∀ q : Nat, s.heap.size ≤ q → A q := fun q h => by rw [← hAe]; exact Or.inr h
  have hS : va_S A s.heap s.heap [] := va_S.rf
  have hP : va_P (dC, dI) vwCl [(xSum, .inr (8, [.ref sM, .ref sP, .ref sA, .int 0]))] s.heap := hP
  have hl := lv_entry ([.ref xSum, .int p0, .int p1]) (n := 4) (Nat.le_of_ble_eq_true rfl)
  rw [lg_entry_eq]
  generalize (lg_sl ([.ref xSum, .int p0, .int p1]) ++ List.replicate (4 - (lg_sl ([.ref xSum, .int p0, .int p1])).length) Slot.unset).toArray = ls at hl ⊢
  have hl : lv_has ls 4 [(0, .ref xSum), (1, .int p0), (2, .int p1)] := hl
  refine lv_iconst (v := 0) hx hb dX8_firstUnlike_0 (by decide) ?_
  refine lv_istore_n (lv' := [(3, .int 0), (0, .ref xSum), (1, .int p0), (2, .int p1)]) hx hb dX8_firstUnlike_1 rfl hl (by decide) rfl (fun ls hl => ?_)
  refine lv_iload_n hx hb dX8_firstUnlike_2 rfl (lv_at hl 0 rfl) ?_
  refine lv_aload_n hx hb dX8_firstUnlike_3 rfl (lv_at hl 1 rfl) ?_
  refine va_get (D := (dC, dI)) (ci := 8) (v := .int 0) (C := RX8) (T := TX8) (N := 4) hx hb hts hiX8 hown hK hP 0 rfl rfl 3 (by decide) (hts (.fieldLink RX8 21 "ScissorsTable$Sums" "size" "I") (by decide +kernel)) (fun _ h9 => h9) rfl dX8_firstUnlike_4 ?_
  refine lv_icmp_ge (tgt := 33) hx hb dX8_firstUnlike_7 (by decide) (fun _ => ?_) (fun c => absurd (by decide) c)
  refine lv_iconst (v := (-1)) hx hb dX8_firstUnlike_33 (by decide) ?_
  have hP9 := hP.sub (ws' := [(xSum, .inr (8, [.ref sM, .ref sP, .ref sA, .int 0]))]) [0] rfl
  have hD9 := hD.sub (ws' := [(xSum, .inr (8, [.ref sM, .ref sP, .ref sA, .int 0]))]) [0] (by decide) rfl
  refine W.widen (k := 0) (n := 0) (Nat.le_of_ble_eq_true rfl) (Nat.le_of_ble_eq_true rfl) ?_
  exact W.iret (v := (-1)) hx hb hr (fun t ht hW => ⟨⟨(-1), (), rfl, rfl, by rw [ht]; exact hP9, va_K.moved hW.alike hK, hD9⟩, hS.F ht⟩) hS.2.2 dX8_firstUnlike_34
set_option maxHeartbeats 4000000 in
set_option maxRecDepth 100000 in
theorem c_X8_greatest (l : Launch) (dC : Nat → ClassId) (dI : Nat → Nat → Nat) (cB cI cJ : ClassId) (sz : Nat) (xSum sM sP sA g0 : Nat) : Met l yX8_greatest wsX8_greatest ({ frames := 1, cells := 0, slots := 0, locals := 24 }) (va_Pc [.ref xSum, .ref g0] (fun U => U.heap.size = sz ∧ va_P (dC, dI) vwCl [(xSum, .inr (8, [.ref sM, .ref sP, .ref sA, .int 0]))] U.heap ∧ va_K (dC, dI) vwCl [(cB, .byte), (cI, .int), (cJ, .long)] U ∧ va_D (fun _ => True) [(xSum, .inr (8, [.ref sM, .ref sP, .ref sA, .int 0]))])) (va_Qi (fun (r : Int32) (_ : Unit) => r = 0) (fun _ _ => True) (va_A [(xSum, .inr (8, [.ref sM, .ref sP, .ref sA, .int 0]))] sz)) 0 0 (va_A [(xSum, .inr (8, [.ref sM, .ref sP, .ref sA, .int 0]))] sz) := by
  refine Met.ofW (cc := cX8_greatest) (maxL := 4) (ret := (some .int)) (by decide) rfl ?_
  intro p e s m args below meth c s₁ B hml hv
  obtain ⟨rfl, hsz, hP, hK, hD0⟩ := hv
  have hx := B.exec
  have hb := B.bytes
  have hr := B.returns
  have hts := atoms_spec (ws := wsX8_greatest) B.pre
  have hown : s.vm.findClass RX8 = some m.cls := findClass_of_methodNamed B.named
  have hlocks := B.notSynchronized
  have hiX8 : ∀ w ∈ u_ws RX8 TX8 4, w ∈ wsX8_greatest := by decide +kernel
  subst hsz
  have hD := hD0.self (sz := s.heap.size)
  generalize hAe : va_A [(xSum, .inr (8, [.ref sM, .ref sP, .ref sA, .int 0]))] s.heap.size = A at hD ⊢
  have hA : ∀ q : Nat, s.heap.size ≤ q → A q := fun q h => by rw [← hAe]; exact Or.inr h
  have hS : va_S A s.heap s.heap [] := va_S.rf
  have hP : va_P (dC, dI) vwCl [(xSum, .inr (8, [.ref sM, .ref sP, .ref sA, .int 0]))] s.heap := hP
  have hl := lv_entry ([.ref xSum, .ref g0]) (n := 4) (Nat.le_of_ble_eq_true rfl)
  rw [lg_entry_eq]
  generalize (lg_sl ([.ref xSum, .ref g0]) ++ List.replicate (4 - (lg_sl ([.ref xSum, .ref g0])).length) Slot.unset).toArray = ls at hl ⊢
  have hl : lv_has ls 4 [(0, .ref xSum), (1, .ref g0)] := hl
  refine lv_iconst (v := 0) hx hb dX8_greatest_0 (by decide) ?_
  refine lv_istore_n (lv' := [(2, .int 0), (0, .ref xSum), (1, .ref g0)]) hx hb dX8_greatest_1 rfl hl (by decide) rfl (fun ls hl => ?_)
  refine lv_iconst (v := 0) hx hb dX8_greatest_2 (by decide) ?_
  refine lv_istore_n (lv' := [(3, .int 0), (2, .int 0), (0, .ref xSum), (1, .ref g0)]) hx hb dX8_greatest_3 rfl hl (by decide) rfl (fun ls hl => ?_)
  refine lv_iload_n hx hb dX8_greatest_4 rfl (lv_at hl 0 rfl) ?_
  refine lv_aload_n hx hb dX8_greatest_5 rfl (lv_at hl 2 rfl) ?_
  refine va_get (D := (dC, dI)) (ci := 8) (v := .int 0) (C := RX8) (T := TX8) (N := 4) hx hb hts hiX8 hown hK hP 0 rfl rfl 3 (by decide) (hts (.fieldLink RX8 21 "ScissorsTable$Sums" "size" "I") (by decide +kernel)) (fun _ h9 => h9) rfl dX8_greatest_6 ?_
  refine lv_icmp_ge (tgt := 32) hx hb dX8_greatest_9 (by decide) (fun _ => ?_) (fun c => absurd (by decide) c)
  refine lv_iload_n hx hb dX8_greatest_32 rfl (lv_at hl 1 rfl) ?_
  refine W.widen (k := 0) (n := 0) (Nat.le_of_ble_eq_true rfl) (Nat.le_of_ble_eq_true rfl) ?_
  exact W.iret (v := 0) hx hb hr (fun t ht hW => ⟨⟨0, (), rfl, rfl, trivial⟩, hS.F ht⟩) hS.2.2 dX8_greatest_33
set_option maxHeartbeats 4000000 in
set_option maxRecDepth 100000 in
theorem c_X8_firstNotBelow (l : Launch) (dC : Nat → ClassId) (dI : Nat → Nat → Nat) (cB cI cJ : ClassId) (sz : Nat) (xSum sM sP sA : Nat) (p0 p1 : Int32) : Met l yX8_firstNotBelow wsX8_firstNotBelow ({ frames := 1, cells := 0, slots := 0, locals := 24 }) (va_Pc [.ref xSum, .int p0, .int p1] (fun U => U.heap.size = sz ∧ va_P (dC, dI) vwCl [(xSum, .inr (8, [.ref sM, .ref sP, .ref sA, .int 0]))] U.heap ∧ va_K (dC, dI) vwCl [(cB, .byte), (cI, .int), (cJ, .long)] U ∧ va_D (fun _ => True) [(xSum, .inr (8, [.ref sM, .ref sP, .ref sA, .int 0]))])) (va_Qi (fun (r : Int32) (_ : Unit) => r = 0) (fun _ t => va_P (dC, dI) vwCl [(xSum, .inr (8, [.ref sM, .ref sP, .ref sA, .int 0]))] t.heap ∧ va_K (dC, dI) vwCl [(cB, .byte), (cI, .int), (cJ, .long)] t ∧ va_D (va_A [(xSum, .inr (8, [.ref sM, .ref sP, .ref sA, .int 0]))] sz) [(xSum, .inr (8, [.ref sM, .ref sP, .ref sA, .int 0]))]) (va_A [(xSum, .inr (8, [.ref sM, .ref sP, .ref sA, .int 0]))] sz)) 0 0 (va_A [(xSum, .inr (8, [.ref sM, .ref sP, .ref sA, .int 0]))] sz) := by
  refine Met.ofW (cc := cX8_firstNotBelow) (maxL := 7) (ret := (some .int)) (by decide) rfl ?_
  intro p e s m args below meth c s₁ B hml hv
  obtain ⟨rfl, hsz, hP, hK, hD0⟩ := hv
  have hx := B.exec
  have hb := B.bytes
  have hr := B.returns
  have hts := atoms_spec (ws := wsX8_firstNotBelow) B.pre
  have hown : s.vm.findClass RX8 = some m.cls := findClass_of_methodNamed B.named
  have hlocks := B.notSynchronized
  have hiX8 : ∀ w ∈ u_ws RX8 TX8 4, w ∈ wsX8_firstNotBelow := by decide +kernel
  subst hsz
  have hD := hD0.self (sz := s.heap.size)
  generalize hAe : va_A [(xSum, .inr (8, [.ref sM, .ref sP, .ref sA, .int 0]))] s.heap.size = A at hD ⊢
  have hA : ∀ q : Nat, s.heap.size ≤ q → A q := fun q h => by rw [← hAe]; exact Or.inr h
  have hS : va_S A s.heap s.heap [] := va_S.rf
  have hP : va_P (dC, dI) vwCl [(xSum, .inr (8, [.ref sM, .ref sP, .ref sA, .int 0]))] s.heap := hP
  have hl := lv_entry ([.ref xSum, .int p0, .int p1]) (n := 7) (Nat.le_of_ble_eq_true rfl)
  rw [lg_entry_eq]
  generalize (lg_sl ([.ref xSum, .int p0, .int p1]) ++ List.replicate (7 - (lg_sl ([.ref xSum, .int p0, .int p1])).length) Slot.unset).toArray = ls at hl ⊢
  have hl : lv_has ls 7 [(0, .ref xSum), (1, .int p0), (2, .int p1)] := hl
  refine lv_iconst (v := 0) hx hb dX8_firstNotBelow_0 (by decide) ?_
  refine lv_istore_n (lv' := [(3, .int 0), (0, .ref xSum), (1, .int p0), (2, .int p1)]) hx hb dX8_firstNotBelow_1 rfl hl (by decide) rfl (fun ls hl => ?_)
  refine lv_aload_n hx hb dX8_firstNotBelow_2 rfl (lv_at hl 1 rfl) ?_
  refine va_get (D := (dC, dI)) (ci := 8) (v := .int 0) (C := RX8) (T := TX8) (N := 4) hx hb hts hiX8 hown hK hP 0 rfl rfl 3 (by decide) (hts (.fieldLink RX8 21 "ScissorsTable$Sums" "size" "I") (by decide +kernel)) (fun _ h9 => h9) rfl dX8_firstNotBelow_3 ?_
  refine lv_istore (lv' := [(4, .int 0), (3, .int 0), (0, .ref xSum), (1, .int p0), (2, .int p1)]) hx hb dX8_firstNotBelow_6 hl (by decide) rfl (fun ls hl => ?_)
  refine lv_iconst (v := 0) hx hb dX8_firstNotBelow_8 (by decide) ?_
  refine lv_istore (lv' := [(5, .int 0), (4, .int 0), (3, .int 0), (0, .ref xSum), (1, .int p0), (2, .int p1)]) hx hb dX8_firstNotBelow_9 hl (by decide) rfl (fun ls hl => ?_)
  refine lv_iload hx hb dX8_firstNotBelow_11 (lv_at hl 0 rfl) ?_
  refine lv_bipush (v := 32) hx hb dX8_firstNotBelow_13 (by decide) ?_
  refine lv_icmp_ge (tgt := 83) hx hb dX8_firstNotBelow_15 (by decide) (fun c => absurd c (by decide)) (fun _ => ?_)
  refine lv_iload_n hx hb dX8_firstNotBelow_18 rfl (lv_at hl 2 rfl) ?_
  refine lv_iload hx hb dX8_firstNotBelow_19 (lv_at hl 1 rfl) ?_
  refine lv_icmp_ge (tgt := 83) hx hb dX8_firstNotBelow_21 (by decide) (fun _ => ?_) (fun c => absurd (by decide) c)
  refine lv_iload_n hx hb dX8_firstNotBelow_83 rfl (lv_at hl 2 rfl) ?_
  have hP9 := hP.sub (ws' := [(xSum, .inr (8, [.ref sM, .ref sP, .ref sA, .int 0]))]) [0] rfl
  have hD9 := hD.sub (ws' := [(xSum, .inr (8, [.ref sM, .ref sP, .ref sA, .int 0]))]) [0] (by decide) rfl
  refine W.widen (k := 0) (n := 0) (Nat.le_of_ble_eq_true rfl) (Nat.le_of_ble_eq_true rfl) ?_
  exact W.iret (v := 0) hx hb hr (fun t ht hW => ⟨⟨0, (), rfl, rfl, by rw [ht]; exact hP9, va_K.moved hW.alike hK, hD9⟩, hS.F ht⟩) hS.2.2 dX8_firstNotBelow_84
set_option maxHeartbeats 4000000 in
set_option maxRecDepth 100000 in
theorem c_X8_isAt (l : Launch) (dC : Nat → ClassId) (dI : Nat → Nat → Nat) (cB cI cJ : ClassId) (sz : Nat) (xSum sM sP sA : Nat) (p0 p1 : Int32) : Met l yX8_isAt wsX8_isAt ({ frames := 1, cells := 0, slots := 0, locals := 24 }) (va_Pc [.ref xSum, .int 0, .int p0, .int p1] (fun U => U.heap.size = sz ∧ va_P (dC, dI) vwCl [(xSum, .inr (8, [.ref sM, .ref sP, .ref sA, .int 0]))] U.heap ∧ va_K (dC, dI) vwCl [(cB, .byte), (cI, .int), (cJ, .long)] U ∧ va_D (fun _ => True) [(xSum, .inr (8, [.ref sM, .ref sP, .ref sA, .int 0]))])) (va_Qi (fun (r : Int32) (_ : Unit) => r = 0) (fun _ t => va_P (dC, dI) vwCl [(xSum, .inr (8, [.ref sM, .ref sP, .ref sA, .int 0]))] t.heap ∧ va_K (dC, dI) vwCl [(cB, .byte), (cI, .int), (cJ, .long)] t ∧ va_D (va_A [(xSum, .inr (8, [.ref sM, .ref sP, .ref sA, .int 0]))] sz) [(xSum, .inr (8, [.ref sM, .ref sP, .ref sA, .int 0]))]) (va_A [(xSum, .inr (8, [.ref sM, .ref sP, .ref sA, .int 0]))] sz)) 0 0 (va_A [(xSum, .inr (8, [.ref sM, .ref sP, .ref sA, .int 0]))] sz) := by
  refine Met.ofW (cc := cX8_isAt) (maxL := 4) (ret := (some .boolean)) (by decide) rfl ?_
  intro p e s m args below meth c s₁ B hml hv
  obtain ⟨rfl, hsz, hP, hK, hD0⟩ := hv
  have hx := B.exec
  have hb := B.bytes
  have hr := B.returns
  have hts := atoms_spec (ws := wsX8_isAt) B.pre
  have hown : s.vm.findClass RX8 = some m.cls := findClass_of_methodNamed B.named
  have hlocks := B.notSynchronized
  have hiX8 : ∀ w ∈ u_ws RX8 TX8 4, w ∈ wsX8_isAt := by decide +kernel
  subst hsz
  have hD := hD0.self (sz := s.heap.size)
  generalize hAe : va_A [(xSum, .inr (8, [.ref sM, .ref sP, .ref sA, .int 0]))] s.heap.size = A at hD ⊢
  have hA : ∀ q : Nat, s.heap.size ≤ q → A q := fun q h => by rw [← hAe]; exact Or.inr h
  have hS : va_S A s.heap s.heap [] := va_S.rf
  have hP : va_P (dC, dI) vwCl [(xSum, .inr (8, [.ref sM, .ref sP, .ref sA, .int 0]))] s.heap := hP
  have hl := lv_entry ([.ref xSum, .int 0, .int p0, .int p1]) (n := 4) (Nat.le_of_ble_eq_true rfl)
  rw [lg_entry_eq]
  generalize (lg_sl ([.ref xSum, .int 0, .int p0, .int p1]) ++ List.replicate (4 - (lg_sl ([.ref xSum, .int 0, .int p0, .int p1])).length) Slot.unset).toArray = ls at hl ⊢
  have hl : lv_has ls 4 [(0, .ref xSum), (1, .int 0), (2, .int p0), (3, .int p1)] := hl
  refine lv_iload_n hx hb dX8_isAt_0 rfl (lv_at hl 1 rfl) ?_
  refine lv_if_lt (tgt := 36) hx hb dX8_isAt_1 (by decide) (fun c => absurd c (by decide)) (fun _ => ?_)
  refine lv_iload_n hx hb dX8_isAt_4 rfl (lv_at hl 1 rfl) ?_
  refine lv_aload_n hx hb dX8_isAt_5 rfl (lv_at hl 0 rfl) ?_
  refine va_get (D := (dC, dI)) (ci := 8) (v := .int 0) (C := RX8) (T := TX8) (N := 4) hx hb hts hiX8 hown hK hP 0 rfl rfl 3 (by decide) (hts (.fieldLink RX8 21 "ScissorsTable$Sums" "size" "I") (by decide +kernel)) (fun _ h9 => h9) rfl dX8_isAt_6 ?_
  refine lv_icmp_ge (tgt := 36) hx hb dX8_isAt_9 (by decide) (fun _ => ?_) (fun c => absurd (by decide) c)
  refine lv_iconst (v := 0) hx hb dX8_isAt_36 (by decide) ?_
  have hP9 := hP.sub (ws' := [(xSum, .inr (8, [.ref sM, .ref sP, .ref sA, .int 0]))]) [0] rfl
  have hD9 := hD.sub (ws' := [(xSum, .inr (8, [.ref sM, .ref sP, .ref sA, .int 0]))]) [0] (by decide) rfl
  refine W.widen (k := 0) (n := 0) (Nat.le_of_ble_eq_true rfl) (Nat.le_of_ble_eq_true rfl) ?_
  exact W.zret (v := 0) hx hb hr (by decide) (fun t ht hW => ⟨⟨0, (), rfl, rfl, by rw [ht]; exact hP9, va_K.moved hW.alike hK, hD9⟩, hS.F ht⟩) hS.2.2 dX8_isAt_37
