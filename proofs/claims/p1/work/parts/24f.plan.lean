set_option maxRecDepth 20000 in
theorem ggX7_areSides_X7_isSide : GoodIn wsX7_areSides wsX7_isSide := goodIn_r _ [4] (by decide +kernel) (by decide +kernel)
set_option maxRecDepth 20000 in
theorem gX7_areSides_X7_isSide : GoodIn wsX7_areSides (va_wsS RX7 41 yX7_isSide wsX7_isSide) := goodIn_app (goodIn_of _ (by decide +kernel)) ggX7_areSides_X7_isSide
theorem dX7_areSides_0 : decode cX7_areSides 0 = .ok (.iload_n 0, 1) := by decide +kernel
theorem dX7_areSides_1 : decode cX7_areSides 1 = .ok (.invokestatic 41, 3) := by decide +kernel
theorem dX7_areSides_4 : decode cX7_areSides 4 = .ok (.ifCond .eq 21, 3) := by decide +kernel
theorem dX7_areSides_7 : decode cX7_areSides 7 = .ok (.iload_n 1, 1) := by decide +kernel
theorem dX7_areSides_8 : decode cX7_areSides 8 = .ok (.invokestatic 41, 3) := by decide +kernel
theorem dX7_areSides_11 : decode cX7_areSides 11 = .ok (.ifCond .eq 14, 3) := by decide +kernel
theorem dX7_areSides_14 : decode cX7_areSides 14 = .ok (.iload_n 2, 1) := by decide +kernel
theorem dX7_areSides_15 : decode cX7_areSides 15 = .ok (.invokestatic 41, 3) := by decide +kernel
theorem dX7_areSides_18 : decode cX7_areSides 18 = .ok (.ifCond .eq 7, 3) := by decide +kernel
theorem dX7_areSides_21 : decode cX7_areSides 21 = .ok (.iconst 1, 1) := by decide +kernel
theorem dX7_areSides_22 : decode cX7_areSides 22 = .ok (.goto 4, 3) := by decide +kernel
theorem dX7_areSides_25 : decode cX7_areSides 25 = .ok (.iconst 0, 1) := by decide +kernel
theorem dX7_areSides_26 : decode cX7_areSides 26 = .ok (.ireturn, 1) := by decide +kernel
theorem dX7_isSide_0 : decode cX7_isSide 0 = .ok (.iload_n 0, 1) := by decide +kernel
theorem dX7_isSide_1 : decode cX7_isSide 1 = .ok (.iconst 1, 1) := by decide +kernel
theorem dX7_isSide_2 : decode cX7_isSide 2 = .ok (.if_icmp .lt 13, 3) := by decide +kernel
theorem dX7_isSide_5 : decode cX7_isSide 5 = .ok (.iload_n 0, 1) := by decide +kernel
theorem dX7_isSide_6 : decode cX7_isSide 6 = .ok (.bipush 24, 2) := by decide +kernel
theorem dX7_isSide_8 : decode cX7_isSide 8 = .ok (.if_icmp .gt 7, 3) := by decide +kernel
theorem dX7_isSide_11 : decode cX7_isSide 11 = .ok (.iconst 1, 1) := by decide +kernel
theorem dX7_isSide_12 : decode cX7_isSide 12 = .ok (.goto 4, 3) := by decide +kernel
theorem dX7_isSide_15 : decode cX7_isSide 15 = .ok (.iconst 0, 1) := by decide +kernel
theorem dX7_isSide_16 : decode cX7_isSide 16 = .ok (.ireturn, 1) := by decide +kernel
set_option maxRecDepth 20000 in
theorem ggX10_plan_X7_areSides : GoodIn wsX10_plan wsX7_areSides := goodIn_r _ [6, 7, 8, 5, 9] (by decide +kernel) (by decide +kernel)
set_option maxRecDepth 20000 in
theorem gX10_plan_X7_areSides : GoodIn wsX10_plan (va_wsS RX10 347 yX7_areSides wsX7_areSides) := goodIn_app (goodIn_of _ (by decide +kernel)) ggX10_plan_X7_areSides
set_option maxRecDepth 20000 in
theorem ggX10_plan_X7_search : GoodIn wsX10_plan wsX7_search := goodIn_r _ [13, 14, 15, 16, 17, 18, 5, 19, 20, 21, 22, 23, 24, 25, 26, 27, 28, 29, 30, 31, 32, 33, 34, 35, 36, 37, 58, 59, 60, 61, 62, 63, 64, 65, 66, 67] (by decide +kernel) (by decide +kernel)
set_option maxRecDepth 20000 in
theorem gX10_plan_X7_search : GoodIn wsX10_plan (wsV RX10 350 RX7 yX7_search wsX7_search) := goodIn_app (goodIn_of _ (by decide +kernel)) ggX10_plan_X7_search
set_option maxRecDepth 20000 in
theorem ggX10_plan_X7_keep : GoodIn wsX10_plan wsX7_keep := goodIn_r _ [41, 15, 33, 14, 42, 43, 44, 17, 18, 5, 19, 58, 59, 60, 61, 62, 63, 64, 65, 66, 67] (by decide +kernel) (by decide +kernel)
set_option maxRecDepth 20000 in
theorem gX10_plan_X7_keep : GoodIn wsX10_plan (wsV RX10 354 RX7 yX7_keep wsX7_keep) := goodIn_app (goodIn_of _ (by decide +kernel)) ggX10_plan_X7_keep
theorem dX10_plan_0 : decode cX10_plan 0 = .ok (.iload_n 1, 1) := by decide +kernel
theorem dX10_plan_1 : decode cX10_plan 1 = .ok (.iload_n 2, 1) := by decide +kernel
theorem dX10_plan_2 : decode cX10_plan 2 = .ok (.iload_n 3, 1) := by decide +kernel
theorem dX10_plan_3 : decode cX10_plan 3 = .ok (.invokestatic 347, 3) := by decide +kernel
theorem dX10_plan_6 : decode cX10_plan 6 = .ok (.ifCond .eq 26, 3) := by decide +kernel
theorem dX10_plan_9 : decode cX10_plan 9 = .ok (.iload 4, 2) := by decide +kernel
theorem dX10_plan_11 : decode cX10_plan 11 = .ok (.iload 5, 2) := by decide +kernel
theorem dX10_plan_13 : decode cX10_plan 13 = .ok (.iload 6, 2) := by decide +kernel
theorem dX10_plan_15 : decode cX10_plan 15 = .ok (.invokestatic 347, 3) := by decide +kernel
theorem dX10_plan_18 : decode cX10_plan 18 = .ok (.ifCond .eq 14, 3) := by decide +kernel
theorem dX10_plan_21 : decode cX10_plan 21 = .ok (.iload_n 1, 1) := by decide +kernel
theorem dX10_plan_22 : decode cX10_plan 22 = .ok (.iload_n 2, 1) := by decide +kernel
theorem dX10_plan_23 : decode cX10_plan 23 = .ok (.imul, 1) := by decide +kernel
theorem dX10_plan_24 : decode cX10_plan 24 = .ok (.iload_n 3, 1) := by decide +kernel
theorem dX10_plan_25 : decode cX10_plan 25 = .ok (.imul, 1) := by decide +kernel
theorem dX10_plan_26 : decode cX10_plan 26 = .ok (.sipush 1728, 3) := by decide +kernel
theorem dX10_plan_29 : decode cX10_plan 29 = .ok (.if_icmp .le 6, 3) := by decide +kernel
theorem dX10_plan_32 : decode cX10_plan 32 = .ok (.bipush (-2), 2) := by decide +kernel
theorem dX10_plan_34 : decode cX10_plan 34 = .ok (.ireturn, 1) := by decide +kernel
theorem dX10_plan_35 : decode cX10_plan 35 = .ok (.iload_n 1, 1) := by decide +kernel
theorem dX10_plan_36 : decode cX10_plan 36 = .ok (.iload_n 2, 1) := by decide +kernel
theorem dX10_plan_37 : decode cX10_plan 37 = .ok (.imul, 1) := by decide +kernel
theorem dX10_plan_38 : decode cX10_plan 38 = .ok (.iload_n 3, 1) := by decide +kernel
theorem dX10_plan_39 : decode cX10_plan 39 = .ok (.imul, 1) := by decide +kernel
theorem dX10_plan_40 : decode cX10_plan 40 = .ok (.iload 4, 2) := by decide +kernel
theorem dX10_plan_42 : decode cX10_plan 42 = .ok (.iload 5, 2) := by decide +kernel
theorem dX10_plan_44 : decode cX10_plan 44 = .ok (.imul, 1) := by decide +kernel
theorem dX10_plan_45 : decode cX10_plan 45 = .ok (.iload 6, 2) := by decide +kernel
theorem dX10_plan_47 : decode cX10_plan 47 = .ok (.imul, 1) := by decide +kernel
theorem dX10_plan_48 : decode cX10_plan 48 = .ok (.if_icmp .eq 6, 3) := by decide +kernel
theorem dX10_plan_51 : decode cX10_plan 51 = .ok (.bipush (-3), 2) := by decide +kernel
theorem dX10_plan_53 : decode cX10_plan 53 = .ok (.ireturn, 1) := by decide +kernel
theorem dX10_plan_54 : decode cX10_plan 54 = .ok (.aload_n 0, 1) := by decide +kernel
theorem dX10_plan_55 : decode cX10_plan 55 = .ok (.getfield 84, 3) := by decide +kernel
theorem dX10_plan_58 : decode cX10_plan 58 = .ok (.iload_n 1, 1) := by decide +kernel
theorem dX10_plan_59 : decode cX10_plan 59 = .ok (.iload_n 2, 1) := by decide +kernel
theorem dX10_plan_60 : decode cX10_plan 60 = .ok (.iload_n 3, 1) := by decide +kernel
theorem dX10_plan_61 : decode cX10_plan 61 = .ok (.iload 4, 2) := by decide +kernel
theorem dX10_plan_63 : decode cX10_plan 63 = .ok (.iload 5, 2) := by decide +kernel
theorem dX10_plan_65 : decode cX10_plan 65 = .ok (.invokevirtual 350, 3) := by decide +kernel
theorem dX10_plan_68 : decode cX10_plan 68 = .ok (.ifCond .ne 5, 3) := by decide +kernel
theorem dX10_plan_71 : decode cX10_plan 71 = .ok (.iconst (-1), 1) := by decide +kernel
theorem dX10_plan_72 : decode cX10_plan 72 = .ok (.ireturn, 1) := by decide +kernel
theorem dX10_plan_73 : decode cX10_plan 73 = .ok (.aload_n 0, 1) := by decide +kernel
theorem dX10_plan_74 : decode cX10_plan 74 = .ok (.getfield 84, 3) := by decide +kernel
theorem dX10_plan_77 : decode cX10_plan 77 = .ok (.iload_n 1, 1) := by decide +kernel
theorem dX10_plan_78 : decode cX10_plan 78 = .ok (.iload_n 2, 1) := by decide +kernel
theorem dX10_plan_79 : decode cX10_plan 79 = .ok (.iload_n 3, 1) := by decide +kernel
theorem dX10_plan_80 : decode cX10_plan 80 = .ok (.iload 4, 2) := by decide +kernel
theorem dX10_plan_82 : decode cX10_plan 82 = .ok (.iload 5, 2) := by decide +kernel
theorem dX10_plan_84 : decode cX10_plan 84 = .ok (.invokevirtual 354, 3) := by decide +kernel
theorem dX10_plan_87 : decode cX10_plan 87 = .ok (.aload_n 0, 1) := by decide +kernel
theorem dX10_plan_88 : decode cX10_plan 88 = .ok (.getfield 84, 3) := by decide +kernel
theorem dX10_plan_91 : decode cX10_plan 91 = .ok (.getfield 137, 3) := by decide +kernel
theorem dX10_plan_94 : decode cX10_plan 94 = .ok (.ireturn, 1) := by decide +kernel
set_option maxHeartbeats 4000000 in
set_option maxRecDepth 100000 in
theorem c_X7_isSide (l : Launch) (dC : Nat → ClassId) (dI : Nat → Nat → Nat) (cB cI cJ : ClassId) (sz : Nat)  (p0 : Int32) : Met l yX7_isSide wsX7_isSide ({ frames := 1, cells := 0, slots := 0, locals := 24 }) (va_Pc [.int p0] (fun U => U.heap.size = sz ∧ va_P (dC, dI) vwCl [] U.heap ∧ va_K (dC, dI) vwCl [(cB, .byte), (cI, .int), (cJ, .long)] U ∧ va_D (fun _ => True) [])) (va_Qi (fun (r : Int32) (_ : Unit) => (r = 0 ∧ ¬ (1 ≤ p0.toInt ∧ p0.toInt ≤ 24)) ∨ (r = 1 ∧ (1 ≤ p0.toInt ∧ p0.toInt ≤ 24))) (fun _ _ => True) (va_A [] sz)) 0 0 (va_A [] sz) := by
  refine Met.ofW (cc := cX7_isSide) (maxL := 1) (ret := (some .boolean)) (by decide) rfl ?_
  intro p e s m args below meth c s₁ B hml hv
  obtain ⟨rfl, hsz, hP, hK, hD0⟩ := hv
  have hx := B.exec
  have hb := B.bytes
  have hr := B.returns
  have hts := atoms_spec (ws := wsX7_isSide) B.pre
  have hown : s.vm.findClass RX7 = some m.cls := findClass_of_methodNamed B.named
  have hlocks := B.notSynchronized
  subst hsz
  have hD := hD0.self (sz := s.heap.size)
  generalize hAe : va_A [] s.heap.size = A at hD ⊢
  have hA : ∀ q : Nat, s.heap.size ≤ q → A q := fun q h => by rw [← hAe]; exact Or.inr h
  have hS : va_S A s.heap s.heap [] := va_S.rf
  have hP : va_P (dC, dI) vwCl [] s.heap := hP
  have hl := lv_entry ([.int p0]) (n := 1) (Nat.le_of_ble_eq_true rfl)
  rw [lg_entry_eq]
  generalize (lg_sl ([.int p0]) ++ List.replicate (1 - (lg_sl ([.int p0])).length) Slot.unset).toArray = ls at hl ⊢
  have hl : lv_has ls 1 [(0, .int p0)] := hl
  refine lv_iload_n hx hb dX7_isSide_0 rfl (lv_at hl 0 rfl) ?_
  refine lv_iconst (v := 1) hx hb dX7_isSide_1 (by decide) ?_
  refine lv_icmp_lt (tgt := 15) hx hb dX7_isSide_2 (by decide) (fun c_1 => ?_) (fun c_1 => ?_)
  · refine lv_iconst (v := 0) hx hb dX7_isSide_15 (by decide) ?_
    refine W.widen (k := 0) (n := 0) (Nat.le_of_ble_eq_true rfl) (Nat.le_of_ble_eq_true rfl) ?_
    exact W.zret (v := 0) hx hb hr (by decide) (fun t ht hW => ⟨⟨0, (), rfl, (Or.inl ⟨rfl, (by (try simp only [nk_lt, nk_le, nk_eq, nk_wd, nk_c0, nk_c1, nk_c2, nk_c3, nk_c4, nk_c5, nk_c6, nk_c15, nk_c16, nk_c24, nk_c47, nk_c48, nk_c600, nk_c1728, nk_m1, nk_l0, nk_l1, nk_l2, nk_l3, nk_l5, nk_l15, nk_l24, nk_l47] at c_1); omega)⟩), trivial⟩, hS.F ht⟩) hS.2.2 dX7_isSide_16
  · refine lv_iload_n hx hb dX7_isSide_5 rfl (lv_at hl 0 rfl) ?_
    refine lv_bipush (v := 24) hx hb dX7_isSide_6 (by decide) ?_
    refine lv_icmp_gt (tgt := 15) hx hb dX7_isSide_8 (by decide) (fun c_2 => ?_) (fun c_2 => ?_)
    · refine lv_iconst (v := 0) hx hb dX7_isSide_15 (by decide) ?_
      refine W.widen (k := 0) (n := 0) (Nat.le_of_ble_eq_true rfl) (Nat.le_of_ble_eq_true rfl) ?_
      exact W.zret (v := 0) hx hb hr (by decide) (fun t ht hW => ⟨⟨0, (), rfl, (Or.inl ⟨rfl, (by (try simp only [nk_lt, nk_le, nk_eq, nk_wd, nk_c0, nk_c1, nk_c2, nk_c3, nk_c4, nk_c5, nk_c6, nk_c15, nk_c16, nk_c24, nk_c47, nk_c48, nk_c600, nk_c1728, nk_m1, nk_l0, nk_l1, nk_l2, nk_l3, nk_l5, nk_l15, nk_l24, nk_l47] at c_1 c_2); omega)⟩), trivial⟩, hS.F ht⟩) hS.2.2 dX7_isSide_16
    · refine lv_iconst (v := 1) hx hb dX7_isSide_11 (by decide) ?_
      refine lv_goto (tgt := 16) hx hb dX7_isSide_12 (by decide) ?_
      refine W.widen (k := 0) (n := 0) (Nat.le_of_ble_eq_true rfl) (Nat.le_of_ble_eq_true rfl) ?_
      exact W.zret (v := 1) hx hb hr (by decide) (fun t ht hW => ⟨⟨1, (), rfl, (Or.inr ⟨rfl, (by (try simp only [nk_lt, nk_le, nk_eq, nk_wd, nk_c0, nk_c1, nk_c2, nk_c3, nk_c4, nk_c5, nk_c6, nk_c15, nk_c16, nk_c24, nk_c47, nk_c48, nk_c600, nk_c1728, nk_m1, nk_l0, nk_l1, nk_l2, nk_l3, nk_l5, nk_l15, nk_l24, nk_l47] at c_1 c_2); omega)⟩), trivial⟩, hS.F ht⟩) hS.2.2 dX7_isSide_16
set_option maxHeartbeats 4000000 in
set_option maxRecDepth 100000 in
theorem c_X7_areSides (l : Launch) (dC : Nat → ClassId) (dI : Nat → Nat → Nat) (cB cI cJ : ClassId) (sz : Nat)  (p0 p1 p2 : Int32) : Met l yX7_areSides wsX7_areSides ({ frames := 2, cells := 0, slots := 0, locals := 44 }) (va_Pc [.int p0, .int p1, .int p2] (fun U => U.heap.size = sz ∧ va_P (dC, dI) vwCl [] U.heap ∧ va_K (dC, dI) vwCl [(cB, .byte), (cI, .int), (cJ, .long)] U ∧ va_D (fun _ => True) [])) (va_Qi (fun (r : Int32) (_ : Unit) => (r = 0 ∧ ¬ ((1 ≤ p0.toInt ∧ p0.toInt ≤ 24) ∧ (1 ≤ p1.toInt ∧ p1.toInt ≤ 24) ∧ (1 ≤ p2.toInt ∧ p2.toInt ≤ 24))) ∨ (r = 1 ∧ ((1 ≤ p0.toInt ∧ p0.toInt ≤ 24) ∧ (1 ≤ p1.toInt ∧ p1.toInt ≤ 24) ∧ (1 ≤ p2.toInt ∧ p2.toInt ≤ 24)))) (fun _ _ => True) (va_A [] sz)) 0 0 (va_A [] sz) := by
  refine Met.ofW (cc := cX7_areSides) (maxL := 3) (ret := (some .boolean)) (by decide) rfl ?_
  intro p e s m args below meth c s₁ B hml hv
  obtain ⟨rfl, hsz, hP, hK, hD0⟩ := hv
  have hx := B.exec
  have hb := B.bytes
  have hr := B.returns
  have hts := atoms_spec (ws := wsX7_areSides) B.pre
  have hown : s.vm.findClass RX7 = some m.cls := findClass_of_methodNamed B.named
  have hlocks := B.notSynchronized
  subst hsz
  have hD := hD0.self (sz := s.heap.size)
  generalize hAe : va_A [] s.heap.size = A at hD ⊢
  have hA : ∀ q : Nat, s.heap.size ≤ q → A q := fun q h => by rw [← hAe]; exact Or.inr h
  have hS : va_S A s.heap s.heap [] := va_S.rf
  have hP : va_P (dC, dI) vwCl [] s.heap := hP
  have hl := lv_entry ([.int p0, .int p1, .int p2]) (n := 3) (Nat.le_of_ble_eq_true rfl)
  rw [lg_entry_eq]
  generalize (lg_sl ([.int p0, .int p1, .int p2]) ++ List.replicate (3 - (lg_sl ([.int p0, .int p1, .int p2])).length) Slot.unset).toArray = ls at hl ⊢
  have hl : lv_has ls 3 [(0, .int p0), (1, .int p1), (2, .int p2)] := hl
  refine lv_iload_n hx hb dX7_areSides_0 rfl (lv_at hl 0 rfl) ?_
  have hPc := hP.sub (ws' := []) [] rfl
  have hDc := hD.sub (ws' := []) [] (by decide) rfl
  have hFc := va_free (wc := []) hD hS hA [] rfl
  refine va_calli (va_runS (As := [.int p0]) (rest := []) ⟨hx, hb, hml, hown, hts⟩ (c_X7_isSide l dC dI cB cI cJ s.heap.size p0) (va_cwS 1 hts gX7_areSides_X7_isSide rfl rfl rfl (by decide +kernel) ⟨Nat.le_of_ble_eq_true rfl, Nat.le_of_ble_eq_true rfl⟩) ⟨fun a U g mk q => by obtain ⟨q0, q1, qP, qK, qD⟩ := q; exact ⟨q0, q1, qP, va_K.moved (u := U) (U := U.calling g mk a) (Vm.Alike.refl U.vm) qK, qD⟩, fun U hU hW => ⟨rfl, by rw [hU], by rw [hU]; exact hPc, va_K.moved hW.alike hK, hDc.weaken (fun _ _ _ _ => trivial)⟩⟩ rfl rfl hl.1 rfl (lv_room (Nat.le_of_ble_eq_true rfl)) dX7_areSides_1 ⟨Nat.le_of_ble_eq_true rfl, Nat.le_of_ble_eq_true rfl⟩) hS (fun q _ h => hFc q h) hFc (fun r_1 u t H1 locs ht hvm hw hB hz1 hk1 hS => ?_)
  have hP1 : va_P (dC, dI) vwCl [] H1 := fun k q h => by simp at h
  have hD1 : va_D (va_A [] s.heap.size) [] := ⟨fun i j p q h => by simp at h, fun k q h => by simp at h⟩
  obtain ⟨hP, hD⟩ := va_join (wr := []) (w1 := []) hP hD [] [] rfl rfl (by decide) (by decide) hk1 hFc hP1 hD1
  generalize H1 = H at hP hS ⊢
  have hP : va_P (dC, dI) vwCl [] H := hP
  have hD : va_D A [] := hD
  rcases hw with ⟨rfl, k_2⟩ | ⟨rfl, k_2⟩
  · refine lv_if_eq (tgt := 25) hx hb dX7_areSides_4 (by decide) (fun _ => ?_) (fun c => absurd (by decide) c)
    refine lv_iconst (v := 0) hx hb dX7_areSides_25 (by decide) ?_
    refine W.widen (k := 0) (n := 0) (Nat.le_of_ble_eq_true rfl) (Nat.le_of_ble_eq_true rfl) ?_
    exact W.zret (v := 0) hx hb hr (by decide) (fun t ht hW => ⟨⟨0, (), rfl, (Or.inl ⟨rfl, (by (try simp only [nk_lt, nk_le, nk_eq, nk_wd, nk_c0, nk_c1, nk_c2, nk_c3, nk_c4, nk_c5, nk_c6, nk_c15, nk_c16, nk_c24, nk_c47, nk_c48, nk_c600, nk_c1728, nk_m1, nk_l0, nk_l1, nk_l2, nk_l3, nk_l5, nk_l15, nk_l24, nk_l47] at k_2); omega)⟩), trivial⟩, hS.F ht⟩) hS.2.2 dX7_areSides_26
  · refine lv_if_eq (tgt := 25) hx hb dX7_areSides_4 (by decide) (fun c => absurd c (by decide)) (fun _ => ?_)
    refine lv_iload_n hx hb dX7_areSides_7 rfl (lv_at hl 1 rfl) ?_
    have hPc := hP.sub (ws' := []) [] rfl
    have hDc := hD.sub (ws' := []) [] (by decide) rfl
    have hFc := va_free (wc := []) hD hS hA [] rfl
    refine va_calli (va_runS (As := [.int p1]) (rest := []) ⟨hx, hb, hml, hown, hts⟩ (c_X7_isSide l dC dI cB cI cJ H.size p1) (va_cwS 1 hts gX7_areSides_X7_isSide rfl rfl rfl (by decide +kernel) ⟨Nat.le_of_ble_eq_true rfl, Nat.le_of_ble_eq_true rfl⟩) ⟨fun a U g mk q => by obtain ⟨q0, q1, qP, qK, qD⟩ := q; exact ⟨q0, q1, qP, va_K.moved (u := U) (U := U.calling g mk a) (Vm.Alike.refl U.vm) qK, qD⟩, fun U hU hW => ⟨rfl, by rw [hU], by rw [hU]; exact hPc, va_K.moved hW.alike hK, hDc.weaken (fun _ _ _ _ => trivial)⟩⟩ rfl rfl hl.1 rfl (lv_room (Nat.le_of_ble_eq_true rfl)) dX7_areSides_8 ⟨Nat.le_of_ble_eq_true rfl, Nat.le_of_ble_eq_true rfl⟩) hS (fun q _ h => hFc q h) hFc (fun r_3 u t H1 locs ht hvm hw hB hz1 hk1 hS => ?_)
    have hP1 : va_P (dC, dI) vwCl [] H1 := fun k q h => by simp at h
    have hD1 : va_D (va_A [] H.size) [] := ⟨fun i j p q h => by simp at h, fun k q h => by simp at h⟩
    obtain ⟨hP, hD⟩ := va_join (wr := []) (w1 := []) hP hD [] [] rfl rfl (by decide) (by decide) hk1 hFc hP1 hD1
    generalize H1 = H at hP hS ⊢
    have hP : va_P (dC, dI) vwCl [] H := hP
    have hD : va_D A [] := hD
    rcases hw with ⟨rfl, k_4⟩ | ⟨rfl, k_4⟩
    · refine lv_if_eq (tgt := 25) hx hb dX7_areSides_11 (by decide) (fun _ => ?_) (fun c => absurd (by decide) c)
      refine lv_iconst (v := 0) hx hb dX7_areSides_25 (by decide) ?_
      refine W.widen (k := 0) (n := 0) (Nat.le_of_ble_eq_true rfl) (Nat.le_of_ble_eq_true rfl) ?_
      exact W.zret (v := 0) hx hb hr (by decide) (fun t ht hW => ⟨⟨0, (), rfl, (Or.inl ⟨rfl, (by (try simp only [nk_lt, nk_le, nk_eq, nk_wd, nk_c0, nk_c1, nk_c2, nk_c3, nk_c4, nk_c5, nk_c6, nk_c15, nk_c16, nk_c24, nk_c47, nk_c48, nk_c600, nk_c1728, nk_m1, nk_l0, nk_l1, nk_l2, nk_l3, nk_l5, nk_l15, nk_l24, nk_l47] at k_2 k_4); omega)⟩), trivial⟩, hS.F ht⟩) hS.2.2 dX7_areSides_26
    · refine lv_if_eq (tgt := 25) hx hb dX7_areSides_11 (by decide) (fun c => absurd c (by decide)) (fun _ => ?_)
      refine lv_iload_n hx hb dX7_areSides_14 rfl (lv_at hl 2 rfl) ?_
      have hPc := hP.sub (ws' := []) [] rfl
      have hDc := hD.sub (ws' := []) [] (by decide) rfl
      have hFc := va_free (wc := []) hD hS hA [] rfl
      refine va_calli (va_runS (As := [.int p2]) (rest := []) ⟨hx, hb, hml, hown, hts⟩ (c_X7_isSide l dC dI cB cI cJ H.size p2) (va_cwS 1 hts gX7_areSides_X7_isSide rfl rfl rfl (by decide +kernel) ⟨Nat.le_of_ble_eq_true rfl, Nat.le_of_ble_eq_true rfl⟩) ⟨fun a U g mk q => by obtain ⟨q0, q1, qP, qK, qD⟩ := q; exact ⟨q0, q1, qP, va_K.moved (u := U) (U := U.calling g mk a) (Vm.Alike.refl U.vm) qK, qD⟩, fun U hU hW => ⟨rfl, by rw [hU], by rw [hU]; exact hPc, va_K.moved hW.alike hK, hDc.weaken (fun _ _ _ _ => trivial)⟩⟩ rfl rfl hl.1 rfl (lv_room (Nat.le_of_ble_eq_true rfl)) dX7_areSides_15 ⟨Nat.le_of_ble_eq_true rfl, Nat.le_of_ble_eq_true rfl⟩) hS (fun q _ h => hFc q h) hFc (fun r_5 u t H1 locs ht hvm hw hB hz1 hk1 hS => ?_)
      have hP1 : va_P (dC, dI) vwCl [] H1 := fun k q h => by simp at h
      have hD1 : va_D (va_A [] H.size) [] := ⟨fun i j p q h => by simp at h, fun k q h => by simp at h⟩
      obtain ⟨hP, hD⟩ := va_join (wr := []) (w1 := []) hP hD [] [] rfl rfl (by decide) (by decide) hk1 hFc hP1 hD1
      generalize H1 = H at hP hS ⊢
      have hP : va_P (dC, dI) vwCl [] H := hP
      have hD : va_D A [] := hD
      rcases hw with ⟨rfl, k_6⟩ | ⟨rfl, k_6⟩
      · refine lv_if_eq (tgt := 25) hx hb dX7_areSides_18 (by decide) (fun _ => ?_) (fun c => absurd (by decide) c)
        refine lv_iconst (v := 0) hx hb dX7_areSides_25 (by decide) ?_
        refine W.widen (k := 0) (n := 0) (Nat.le_of_ble_eq_true rfl) (Nat.le_of_ble_eq_true rfl) ?_
        exact W.zret (v := 0) hx hb hr (by decide) (fun t ht hW => ⟨⟨0, (), rfl, (Or.inl ⟨rfl, (by (try simp only [nk_lt, nk_le, nk_eq, nk_wd, nk_c0, nk_c1, nk_c2, nk_c3, nk_c4, nk_c5, nk_c6, nk_c15, nk_c16, nk_c24, nk_c47, nk_c48, nk_c600, nk_c1728, nk_m1, nk_l0, nk_l1, nk_l2, nk_l3, nk_l5, nk_l15, nk_l24, nk_l47] at k_2 k_4 k_6); omega)⟩), trivial⟩, hS.F ht⟩) hS.2.2 dX7_areSides_26
      · refine lv_if_eq (tgt := 25) hx hb dX7_areSides_18 (by decide) (fun c => absurd c (by decide)) (fun _ => ?_)
        refine lv_iconst (v := 1) hx hb dX7_areSides_21 (by decide) ?_
        refine lv_goto (tgt := 26) hx hb dX7_areSides_22 (by decide) ?_
        refine W.widen (k := 0) (n := 0) (Nat.le_of_ble_eq_true rfl) (Nat.le_of_ble_eq_true rfl) ?_
        exact W.zret (v := 1) hx hb hr (by decide) (fun t ht hW => ⟨⟨1, (), rfl, (Or.inr ⟨rfl, (by (try simp only [nk_lt, nk_le, nk_eq, nk_wd, nk_c0, nk_c1, nk_c2, nk_c3, nk_c4, nk_c5, nk_c6, nk_c15, nk_c16, nk_c24, nk_c47, nk_c48, nk_c600, nk_c1728, nk_m1, nk_l0, nk_l1, nk_l2, nk_l3, nk_l5, nk_l15, nk_l24, nk_l47] at k_2 k_4 k_6); omega)⟩), trivial⟩, hS.F ht⟩) hS.2.2 dX7_areSides_26
set_option maxHeartbeats 4000000 in
set_option maxRecDepth 100000 in
theorem c_X10_plan (l : Launch) (dC : Nat → ClassId) (dI : Nat → Nat → Nat) (cB cI cJ : ClassId) (sz : Nat) (x0 xTape xReader xBag xBld xAng xSum xPik xHan xIns xShr xSta xTur fL fS fP fT fA fQ fR fN : Nat) (p0 p1 p2 p3 p4 p5 : Int32) : Met l yX10_plan wsX10_plan ({ frames := 4, cells := 0, slots := 0, locals := 104 }) (va_Pc [.ref x0, .int p0, .int p1, .int p2, .int p3, .int p4, .int p5] (fun U => U.heap.size = sz ∧ va_P (dC, dI) vwCl [(x0, .inr (10, [.ref xTape, .ref xReader, .ref xBag, .ref xBld, .ref xAng, .ref xSum, .ref xPik, .int 0, .ref xHan, .ref xIns, .ref xShr, .ref xSta, .ref xTur])), (xSta, .inr (7, [.int (-1), .ref fL, .ref fS, .ref fP, .ref fT, .ref fA, .ref fQ, .ref fR, .int 0, .ref fN])), (fS, .inl (cI, 3, (.inl (fun _ => 0)))), (fA, .inl (cI, 576, (.inl (fun _ => 0)))), (fQ, .inl (cI, 576, (.inl (fun _ => 0)))), (fR, .inl (cI, 576, (.inl (fun _ => 0)))), (fL, .inl (cI, 576, (.inl (fun _ => 0)))), (fT, .inl (cI, 3, (.inl (fun _ => 0))))] U.heap ∧ va_K (dC, dI) vwCl [(cB, .byte), (cI, .int), (cJ, .long)] U ∧ va_D (fun _ => True) [(x0, .inr (10, [.ref xTape, .ref xReader, .ref xBag, .ref xBld, .ref xAng, .ref xSum, .ref xPik, .int 0, .ref xHan, .ref xIns, .ref xShr, .ref xSta, .ref xTur])), (xSta, .inr (7, [.int (-1), .ref fL, .ref fS, .ref fP, .ref fT, .ref fA, .ref fQ, .ref fR, .int 0, .ref fN])), (fS, .inl (cI, 3, (.inl (fun _ => 0)))), (fA, .inl (cI, 576, (.inl (fun _ => 0)))), (fQ, .inl (cI, 576, (.inl (fun _ => 0)))), (fR, .inl (cI, 576, (.inl (fun _ => 0)))), (fL, .inl (cI, 576, (.inl (fun _ => 0)))), (fT, .inl (cI, 3, (.inl (fun _ => 0))))])) (va_Qi (fun (r : Int32) (_ : Unit) => pl_is r p0 p1 p2 p3 p4 p5) (fun _ _ => True) (va_A [(x0, .inr (10, [.ref xTape, .ref xReader, .ref xBag, .ref xBld, .ref xAng, .ref xSum, .ref xPik, .int 0, .ref xHan, .ref xIns, .ref xShr, .ref xSta, .ref xTur])), (xSta, .inr (7, [.int (-1), .ref fL, .ref fS, .ref fP, .ref fT, .ref fA, .ref fQ, .ref fR, .int 0, .ref fN])), (fS, .inl (cI, 3, (.inl (fun _ => 0)))), (fA, .inl (cI, 576, (.inl (fun _ => 0)))), (fQ, .inl (cI, 576, (.inl (fun _ => 0)))), (fR, .inl (cI, 576, (.inl (fun _ => 0)))), (fL, .inl (cI, 576, (.inl (fun _ => 0)))), (fT, .inl (cI, 3, (.inl (fun _ => 0))))] sz)) 0 0 (va_A [(x0, .inr (10, [.ref xTape, .ref xReader, .ref xBag, .ref xBld, .ref xAng, .ref xSum, .ref xPik, .int 0, .ref xHan, .ref xIns, .ref xShr, .ref xSta, .ref xTur])), (xSta, .inr (7, [.int (-1), .ref fL, .ref fS, .ref fP, .ref fT, .ref fA, .ref fQ, .ref fR, .int 0, .ref fN])), (fS, .inl (cI, 3, (.inl (fun _ => 0)))), (fA, .inl (cI, 576, (.inl (fun _ => 0)))), (fQ, .inl (cI, 576, (.inl (fun _ => 0)))), (fR, .inl (cI, 576, (.inl (fun _ => 0)))), (fL, .inl (cI, 576, (.inl (fun _ => 0)))), (fT, .inl (cI, 3, (.inl (fun _ => 0))))] sz) := by
  refine Met.ofW (cc := cX10_plan) (maxL := 7) (ret := (some .int)) (by decide) rfl ?_
  intro p e s m args below meth c s₁ B hml hv
  obtain ⟨rfl, hsz, hP, hK, hD0⟩ := hv
  have hx := B.exec
  have hb := B.bytes
  have hr := B.returns
  have hts := atoms_spec (ws := wsX10_plan) B.pre
  have hown : s.vm.findClass RX10 = some m.cls := findClass_of_methodNamed B.named
  have hlocks := B.notSynchronized
  have hiX10 : ∀ w ∈ u_ws RX10 TX10 13, w ∈ wsX10_plan := by decide +kernel
  have hiX7 : ∀ w ∈ u_ws RX7 TX7 10, w ∈ wsX10_plan := by decide +kernel
  subst hsz
  have hD := hD0.self (sz := s.heap.size)
  generalize hAe : va_A [(x0, .inr (10, [.ref xTape, .ref xReader, .ref xBag, .ref xBld, .ref xAng, .ref xSum, .ref xPik, .int 0, .ref xHan, .ref xIns, .ref xShr, .ref xSta, .ref xTur])), (xSta, .inr (7, [.int (-1), .ref fL, .ref fS, .ref fP, .ref fT, .ref fA, .ref fQ, .ref fR, .int 0, .ref fN])), (fS, .inl (cI, 3, (.inl (fun _ => 0)))), (fA, .inl (cI, 576, (.inl (fun _ => 0)))), (fQ, .inl (cI, 576, (.inl (fun _ => 0)))), (fR, .inl (cI, 576, (.inl (fun _ => 0)))), (fL, .inl (cI, 576, (.inl (fun _ => 0)))), (fT, .inl (cI, 3, (.inl (fun _ => 0))))] s.heap.size = A at hD ⊢
  have hA : ∀ q : Nat, s.heap.size ≤ q → A q := fun q h => by rw [← hAe]; exact Or.inr h
  have hS : va_S A s.heap s.heap [] := va_S.rf
  have hP : va_P (dC, dI) vwCl [(x0, .inr (10, [.ref xTape, .ref xReader, .ref xBag, .ref xBld, .ref xAng, .ref xSum, .ref xPik, .int 0, .ref xHan, .ref xIns, .ref xShr, .ref xSta, .ref xTur])), (xSta, .inr (7, [.int (-1), .ref fL, .ref fS, .ref fP, .ref fT, .ref fA, .ref fQ, .ref fR, .int 0, .ref fN])), (fS, .inl (cI, 3, (.inl (fun _ => 0)))), (fA, .inl (cI, 576, (.inl (fun _ => 0)))), (fQ, .inl (cI, 576, (.inl (fun _ => 0)))), (fR, .inl (cI, 576, (.inl (fun _ => 0)))), (fL, .inl (cI, 576, (.inl (fun _ => 0)))), (fT, .inl (cI, 3, (.inl (fun _ => 0))))] s.heap := hP
  have hl := lv_entry ([.ref x0, .int p0, .int p1, .int p2, .int p3, .int p4, .int p5]) (n := 7) (Nat.le_of_ble_eq_true rfl)
  rw [lg_entry_eq]
  generalize (lg_sl ([.ref x0, .int p0, .int p1, .int p2, .int p3, .int p4, .int p5]) ++ List.replicate (7 - (lg_sl ([.ref x0, .int p0, .int p1, .int p2, .int p3, .int p4, .int p5])).length) Slot.unset).toArray = ls at hl ⊢
  have hl : lv_has ls 7 [(0, .ref x0), (1, .int p0), (2, .int p1), (3, .int p2), (4, .int p3), (5, .int p4), (6, .int p5)] := hl
  refine lv_iload_n hx hb dX10_plan_0 rfl (lv_at hl 1 rfl) ?_
  refine lv_iload_n hx hb dX10_plan_1 rfl (lv_at hl 2 rfl) ?_
  refine lv_iload_n hx hb dX10_plan_2 rfl (lv_at hl 3 rfl) ?_
  have hPc := hP.sub (ws' := []) [] rfl
  have hDc := hD.sub (ws' := []) [] (by decide) rfl
  have hFc := va_free (wc := []) hD hS hA [] rfl
  refine va_calli (va_runS (As := [.int p0, .int p1, .int p2]) (rest := []) ⟨hx, hb, hml, hown, hts⟩ (c_X7_areSides l dC dI cB cI cJ s.heap.size p0 p1 p2) (va_cwS 3 hts gX10_plan_X7_areSides rfl rfl rfl (by decide +kernel) ⟨Nat.le_of_ble_eq_true rfl, Nat.le_of_ble_eq_true rfl⟩) ⟨fun a U g mk q => by obtain ⟨q0, q1, qP, qK, qD⟩ := q; exact ⟨q0, q1, qP, va_K.moved (u := U) (U := U.calling g mk a) (Vm.Alike.refl U.vm) qK, qD⟩, fun U hU hW => ⟨rfl, by rw [hU], by rw [hU]; exact hPc, va_K.moved hW.alike hK, hDc.weaken (fun _ _ _ _ => trivial)⟩⟩ rfl rfl hl.1 rfl (lv_room (Nat.le_of_ble_eq_true rfl)) dX10_plan_3 ⟨Nat.le_of_ble_eq_true rfl, Nat.le_of_ble_eq_true rfl⟩) hS (fun q _ h => hFc q h) hFc (fun r_1 u t H1 locs ht hvm hw hB hz1 hk1 hS => ?_)
  have hP1 : va_P (dC, dI) vwCl [] H1 := fun k q h => by simp at h
  have hD1 : va_D (va_A [] s.heap.size) [] := ⟨fun i j p q h => by simp at h, fun k q h => by simp at h⟩
  obtain ⟨hP, hD⟩ := va_join (wr := [(x0, .inr (10, [.ref xTape, .ref xReader, .ref xBag, .ref xBld, .ref xAng, .ref xSum, .ref xPik, .int 0, .ref xHan, .ref xIns, .ref xShr, .ref xSta, .ref xTur])), (xSta, .inr (7, [.int (-1), .ref fL, .ref fS, .ref fP, .ref fT, .ref fA, .ref fQ, .ref fR, .int 0, .ref fN])), (fS, .inl (cI, 3, (.inl (fun _ => 0)))), (fA, .inl (cI, 576, (.inl (fun _ => 0)))), (fQ, .inl (cI, 576, (.inl (fun _ => 0)))), (fR, .inl (cI, 576, (.inl (fun _ => 0)))), (fL, .inl (cI, 576, (.inl (fun _ => 0)))), (fT, .inl (cI, 3, (.inl (fun _ => 0))))]) (w1 := []) hP hD [] [0, 1, 2, 3, 4, 5, 6, 7] rfl rfl (by decide) (by decide) hk1 hFc hP1 hD1
  generalize H1 = H at hP hS ⊢
  have hP : va_P (dC, dI) vwCl [(x0, .inr (10, [.ref xTape, .ref xReader, .ref xBag, .ref xBld, .ref xAng, .ref xSum, .ref xPik, .int 0, .ref xHan, .ref xIns, .ref xShr, .ref xSta, .ref xTur])), (xSta, .inr (7, [.int (-1), .ref fL, .ref fS, .ref fP, .ref fT, .ref fA, .ref fQ, .ref fR, .int 0, .ref fN])), (fS, .inl (cI, 3, (.inl (fun _ => 0)))), (fA, .inl (cI, 576, (.inl (fun _ => 0)))), (fQ, .inl (cI, 576, (.inl (fun _ => 0)))), (fR, .inl (cI, 576, (.inl (fun _ => 0)))), (fL, .inl (cI, 576, (.inl (fun _ => 0)))), (fT, .inl (cI, 3, (.inl (fun _ => 0))))] H := hP
  have hD : va_D A [(x0, .inr (10, [.ref xTape, .ref xReader, .ref xBag, .ref xBld, .ref xAng, .ref xSum, .ref xPik, .int 0, .ref xHan, .ref xIns, .ref xShr, .ref xSta, .ref xTur])), (xSta, .inr (7, [.int (-1), .ref fL, .ref fS, .ref fP, .ref fT, .ref fA, .ref fQ, .ref fR, .int 0, .ref fN])), (fS, .inl (cI, 3, (.inl (fun _ => 0)))), (fA, .inl (cI, 576, (.inl (fun _ => 0)))), (fQ, .inl (cI, 576, (.inl (fun _ => 0)))), (fR, .inl (cI, 576, (.inl (fun _ => 0)))), (fL, .inl (cI, 576, (.inl (fun _ => 0)))), (fT, .inl (cI, 3, (.inl (fun _ => 0))))] := hD
  rcases hw with ⟨rfl, k_2⟩ | ⟨rfl, k_2⟩
  · refine lv_if_eq (tgt := 32) hx hb dX10_plan_6 (by decide) (fun _ => ?_) (fun c => absurd (by decide) c)
    refine lv_bipush (v := (-2)) hx hb dX10_plan_32 (by decide) ?_
    refine W.widen (k := 0) (n := 0) (Nat.le_of_ble_eq_true rfl) (Nat.le_of_ble_eq_true rfl) ?_
    exact W.iret (v := (-2)) hx hb hr (fun t ht hW => ⟨⟨(-2), (), rfl, (pl_bad1 k_2), trivial⟩, hS.F ht⟩) hS.2.2 dX10_plan_34
  · refine lv_if_eq (tgt := 32) hx hb dX10_plan_6 (by decide) (fun c => absurd c (by decide)) (fun _ => ?_)
    refine lv_iload hx hb dX10_plan_9 (lv_at hl 4 rfl) ?_
    refine lv_iload hx hb dX10_plan_11 (lv_at hl 5 rfl) ?_
    refine lv_iload hx hb dX10_plan_13 (lv_at hl 6 rfl) ?_
    have hPc := hP.sub (ws' := []) [] rfl
    have hDc := hD.sub (ws' := []) [] (by decide) rfl
    have hFc := va_free (wc := []) hD hS hA [] rfl
    refine va_calli (va_runS (As := [.int p3, .int p4, .int p5]) (rest := []) ⟨hx, hb, hml, hown, hts⟩ (c_X7_areSides l dC dI cB cI cJ H.size p3 p4 p5) (va_cwS 3 hts gX10_plan_X7_areSides rfl rfl rfl (by decide +kernel) ⟨Nat.le_of_ble_eq_true rfl, Nat.le_of_ble_eq_true rfl⟩) ⟨fun a U g mk q => by obtain ⟨q0, q1, qP, qK, qD⟩ := q; exact ⟨q0, q1, qP, va_K.moved (u := U) (U := U.calling g mk a) (Vm.Alike.refl U.vm) qK, qD⟩, fun U hU hW => ⟨rfl, by rw [hU], by rw [hU]; exact hPc, va_K.moved hW.alike hK, hDc.weaken (fun _ _ _ _ => trivial)⟩⟩ rfl rfl hl.1 rfl (lv_room (Nat.le_of_ble_eq_true rfl)) dX10_plan_15 ⟨Nat.le_of_ble_eq_true rfl, Nat.le_of_ble_eq_true rfl⟩) hS (fun q _ h => hFc q h) hFc (fun r_3 u t H1 locs ht hvm hw hB hz1 hk1 hS => ?_)
    have hP1 : va_P (dC, dI) vwCl [] H1 := fun k q h => by simp at h
    have hD1 : va_D (va_A [] H.size) [] := ⟨fun i j p q h => by simp at h, fun k q h => by simp at h⟩
    obtain ⟨hP, hD⟩ := va_join (wr := [(x0, .inr (10, [.ref xTape, .ref xReader, .ref xBag, .ref xBld, .ref xAng, .ref xSum, .ref xPik, .int 0, .ref xHan, .ref xIns, .ref xShr, .ref xSta, .ref xTur])), (xSta, .inr (7, [.int (-1), .ref fL, .ref fS, .ref fP, .ref fT, .ref fA, .ref fQ, .ref fR, .int 0, .ref fN])), (fS, .inl (cI, 3, (.inl (fun _ => 0)))), (fA, .inl (cI, 576, (.inl (fun _ => 0)))), (fQ, .inl (cI, 576, (.inl (fun _ => 0)))), (fR, .inl (cI, 576, (.inl (fun _ => 0)))), (fL, .inl (cI, 576, (.inl (fun _ => 0)))), (fT, .inl (cI, 3, (.inl (fun _ => 0))))]) (w1 := []) hP hD [] [0, 1, 2, 3, 4, 5, 6, 7] rfl rfl (by decide) (by decide) hk1 hFc hP1 hD1
    generalize H1 = H at hP hS ⊢
    have hP : va_P (dC, dI) vwCl [(x0, .inr (10, [.ref xTape, .ref xReader, .ref xBag, .ref xBld, .ref xAng, .ref xSum, .ref xPik, .int 0, .ref xHan, .ref xIns, .ref xShr, .ref xSta, .ref xTur])), (xSta, .inr (7, [.int (-1), .ref fL, .ref fS, .ref fP, .ref fT, .ref fA, .ref fQ, .ref fR, .int 0, .ref fN])), (fS, .inl (cI, 3, (.inl (fun _ => 0)))), (fA, .inl (cI, 576, (.inl (fun _ => 0)))), (fQ, .inl (cI, 576, (.inl (fun _ => 0)))), (fR, .inl (cI, 576, (.inl (fun _ => 0)))), (fL, .inl (cI, 576, (.inl (fun _ => 0)))), (fT, .inl (cI, 3, (.inl (fun _ => 0))))] H := hP
    have hD : va_D A [(x0, .inr (10, [.ref xTape, .ref xReader, .ref xBag, .ref xBld, .ref xAng, .ref xSum, .ref xPik, .int 0, .ref xHan, .ref xIns, .ref xShr, .ref xSta, .ref xTur])), (xSta, .inr (7, [.int (-1), .ref fL, .ref fS, .ref fP, .ref fT, .ref fA, .ref fQ, .ref fR, .int 0, .ref fN])), (fS, .inl (cI, 3, (.inl (fun _ => 0)))), (fA, .inl (cI, 576, (.inl (fun _ => 0)))), (fQ, .inl (cI, 576, (.inl (fun _ => 0)))), (fR, .inl (cI, 576, (.inl (fun _ => 0)))), (fL, .inl (cI, 576, (.inl (fun _ => 0)))), (fT, .inl (cI, 3, (.inl (fun _ => 0))))] := hD
    rcases hw with ⟨rfl, k_4⟩ | ⟨rfl, k_4⟩
    · refine lv_if_eq (tgt := 32) hx hb dX10_plan_18 (by decide) (fun _ => ?_) (fun c => absurd (by decide) c)
      refine lv_bipush (v := (-2)) hx hb dX10_plan_32 (by decide) ?_
      refine W.widen (k := 0) (n := 0) (Nat.le_of_ble_eq_true rfl) (Nat.le_of_ble_eq_true rfl) ?_
      exact W.iret (v := (-2)) hx hb hr (fun t ht hW => ⟨⟨(-2), (), rfl, (pl_bad2 k_4), trivial⟩, hS.F ht⟩) hS.2.2 dX10_plan_34
    · refine lv_if_eq (tgt := 32) hx hb dX10_plan_18 (by decide) (fun c => absurd c (by decide)) (fun _ => ?_)
      obtain ⟨u0, hu0, eu0⟩ := nk_side k_2.1
      obtain ⟨u1, hu1, eu1⟩ := nk_side k_2.2.1
      obtain ⟨u2, hu2, eu2⟩ := nk_side k_2.2.2
      obtain ⟨v0, hv0, ev0⟩ := nk_side k_4.1
      obtain ⟨v1, hv1, ev1⟩ := nk_side k_4.2.1
      obtain ⟨v2, hv2, ev2⟩ := nk_side k_4.2.2
      subst eu0
      subst eu1
      subst eu2
      subst ev0
      subst ev1
      subst ev2
      have hl : lv_has ls 7 [(0, .ref x0), (1, .int (nI u0)), (2, .int (nI u1)), (3, .int (nI u2)), (4, .int (nI v0)), (5, .int (nI v1)), (6, .int (nI v2))] := hl
      have hu : (1 ≤ u0 ∧ u0 ≤ 24) ∧ (1 ≤ u1 ∧ u1 ≤ 24) ∧ (1 ≤ u2 ∧ u2 ≤ 24) := ⟨hu0, hu1, hu2⟩
      have hv : (1 ≤ v0 ∧ v0 ≤ 24) ∧ (1 ≤ v1 ∧ v1 ≤ 24) ∧ (1 ≤ v2 ∧ v2 ≤ 24) := ⟨hv0, hv1, hv2⟩
      have hm1 : u0 * u1 ≤ 24 * 24 := Nat.mul_le_mul hu0.2 hu1.2
      have hm2 : u0 * u1 * u2 ≤ 24 * 24 * 24 := Nat.mul_le_mul hm1 hu2.2
      have hm3 : v0 * v1 ≤ 24 * 24 := Nat.mul_le_mul hv0.2 hv1.2
      have hm4 : v0 * v1 * v2 ≤ 24 * 24 * 24 := Nat.mul_le_mul hm3 hv2.2
      refine lv_iload_n hx hb dX10_plan_21 rfl (lv_at hl 1 rfl) ?_
      refine lv_iload_n hx hb dX10_plan_22 rfl (lv_at hl 2 rfl) ?_
      refine lv_imul hx hb dX10_plan_23 ?_
      refine lv_topi (fun x_5 ex_5 => ?_)
      obtain rfl : x_5 = nI (u0 * u1) := ex_5.trans (pk_mul u0 u1)
      refine lv_iload_n hx hb dX10_plan_24 rfl (lv_at hl 3 rfl) ?_
      refine lv_imul hx hb dX10_plan_25 ?_
      refine lv_topi (fun x_6 ex_6 => ?_)
      obtain rfl : x_6 = nI ((u0 * u1) * u2) := ex_6.trans (pk_mul (u0 * u1) u2)
      refine lv_sipush (v := 1728) hx hb dX10_plan_26 (by decide) ?_
      refine lv_icmp_le (tgt := 35) hx hb dX10_plan_29 (by decide) (fun c_7 => ?_) (fun c_7 => ?_)
      · have c_7 : ((u0 * u1) * u2) ≤ 1728 := (nI_leI (a := (u0 * u1) * u2) (b := 1728) (by omega) (by omega)).mp c_7
        refine lv_iload_n hx hb dX10_plan_35 rfl (lv_at hl 1 rfl) ?_
        refine lv_iload_n hx hb dX10_plan_36 rfl (lv_at hl 2 rfl) ?_
        refine lv_imul hx hb dX10_plan_37 ?_
        refine lv_topi (fun x_8 ex_8 => ?_)
        obtain rfl : x_8 = nI (u0 * u1) := ex_8.trans (pk_mul u0 u1)
        refine lv_iload_n hx hb dX10_plan_38 rfl (lv_at hl 3 rfl) ?_
        refine lv_imul hx hb dX10_plan_39 ?_
        refine lv_topi (fun x_9 ex_9 => ?_)
        obtain rfl : x_9 = nI ((u0 * u1) * u2) := ex_9.trans (pk_mul (u0 * u1) u2)
        refine lv_iload hx hb dX10_plan_40 (lv_at hl 4 rfl) ?_
        refine lv_iload hx hb dX10_plan_42 (lv_at hl 5 rfl) ?_
        refine lv_imul hx hb dX10_plan_44 ?_
        refine lv_topi (fun x_10 ex_10 => ?_)
        obtain rfl : x_10 = nI (v0 * v1) := ex_10.trans (pk_mul v0 v1)
        refine lv_iload hx hb dX10_plan_45 (lv_at hl 6 rfl) ?_
        refine lv_imul hx hb dX10_plan_47 ?_
        refine lv_topi (fun x_11 ex_11 => ?_)
        obtain rfl : x_11 = nI ((v0 * v1) * v2) := ex_11.trans (pk_mul (v0 * v1) v2)
        refine lv_icmp_eq (tgt := 54) hx hb dX10_plan_48 (by decide) (fun c_12 => ?_) (fun c_12 => ?_)
        · have c_12 : ((u0 * u1) * u2) = ((v0 * v1) * v2) := (nI_eq (a := (u0 * u1) * u2) (b := (v0 * v1) * v2) (by omega) (by omega)).mp c_12
          refine lv_aload_n hx hb dX10_plan_54 rfl (lv_at hl 0 rfl) ?_
          refine va_get (D := (dC, dI)) (ci := 10) (v := .ref xSta) (C := RX10) (T := TX10) (N := 13) hx hb hts hiX10 hown hK hP 0 rfl rfl 11 (by decide) (hts (.fieldLink RX10 84 "ScissorsTable" "stairs" "LScissorsTable$Stairs;") (by decide +kernel)) (fun _ h9 => h9) rfl dX10_plan_55 ?_
          refine lv_iload_n hx hb dX10_plan_58 rfl (lv_at hl 1 rfl) ?_
          refine lv_iload_n hx hb dX10_plan_59 rfl (lv_at hl 2 rfl) ?_
          refine lv_iload_n hx hb dX10_plan_60 rfl (lv_at hl 3 rfl) ?_
          refine lv_iload hx hb dX10_plan_61 (lv_at hl 4 rfl) ?_
          refine lv_iload hx hb dX10_plan_63 (lv_at hl 5 rfl) ?_
          have hfin := q_fin hu0 hu1 hu2 c_7
          have hPc := hP.sub (ws' := [(xSta, .inr (7, [.int (-1), .ref fL, .ref fS, .ref fP, .ref fT, .ref fA, .ref fQ, .ref fR, .int 0, .ref fN])), (fS, .inl (cI, 3, (.inl (fun _ => 0)))), (fA, .inl (cI, 576, (.inl (fun _ => 0)))), (fQ, .inl (cI, 576, (.inl (fun _ => 0)))), (fR, .inl (cI, 576, (.inl (fun _ => 0))))]) [1, 2, 3, 4, 5] rfl
          have hDc := hD.sub (ws' := [(xSta, .inr (7, [.int (-1), .ref fL, .ref fS, .ref fP, .ref fT, .ref fA, .ref fQ, .ref fR, .int 0, .ref fN])), (fS, .inl (cI, 3, (.inl (fun _ => 0)))), (fA, .inl (cI, 576, (.inl (fun _ => 0)))), (fQ, .inl (cI, 576, (.inl (fun _ => 0)))), (fR, .inl (cI, 576, (.inl (fun _ => 0))))]) [1, 2, 3, 4, 5] (by decide) rfl
          have hFc := va_free (wc := [(xSta, .inr (7, [.int (-1), .ref fL, .ref fS, .ref fP, .ref fT, .ref fA, .ref fQ, .ref fR, .int 0, .ref fN])), (fS, .inl (cI, 3, (.inl (fun _ => 0)))), (fA, .inl (cI, 576, (.inl (fun _ => 0)))), (fQ, .inl (cI, 576, (.inl (fun _ => 0)))), (fR, .inl (cI, 576, (.inl (fun _ => 0))))]) hD hS hA [1, 2, 3, 4, 5] rfl
          refine va_calli (va_runV (As := [.int (nI u0), .int (nI u1), .int (nI u2), .int (nI v0), .int (nI v1)]) (rest := []) ⟨hx, hb, hml, hown, hts⟩ (c_X7_search l dC dI cB cI cJ H.size xSta fL fS fP fT fA fQ fR fN 0 (fun _ => 0) (fun _ => 0) (fun _ => 0) (fun _ => 0) (u0 * u1 * u2) u0 u1 u2 v0 v1 v2 (bx_mk u0 u1 u2) (bx_mk v0 v1 v2) hu hv rfl c_12.symm c_7 rfl rfl hfin.1) (cwV 5 hts gX10_plan_X7_search rfl rfl rfl (by decide +kernel) ⟨Nat.le_of_ble_eq_true rfl, Nat.le_of_ble_eq_true rfl⟩) ⟨fun a U g mk q => by obtain ⟨q0, q1, qP, qK, qD⟩ := q; exact ⟨q0, q1, qP, va_K.moved (u := U) (U := U.calling g mk a) (Vm.Alike.refl U.vm) qK, qD⟩, va_recv hK hP (ci := 7) (q0 := 1) rfl rfl, fun U hU hW => ⟨rfl, by rw [hU], by rw [hU]; exact hPc, va_K.moved hW.alike hK, hDc.weaken (fun _ _ _ _ => trivial)⟩⟩ rfl rfl hl.1 rfl (lv_room (Nat.le_of_ble_eq_true rfl)) dX10_plan_65 ⟨Nat.le_of_ble_eq_true rfl, Nat.le_of_ble_eq_true rfl⟩) hS (fun q _ h => hFc q h) hFc (fun r_13 u t H1 locs ht hvm hw hB hz1 hk1 hS => ?_)
          obtain ⟨g_14, g_15, g_16, g_17, g_18, h_19, hP1, hK1, hD1⟩ := hB
          rw [ht] at hP1
          obtain ⟨hP, hD⟩ := va_join (wr := [(x0, .inr (10, [.ref xTape, .ref xReader, .ref xBag, .ref xBld, .ref xAng, .ref xSum, .ref xPik, .int 0, .ref xHan, .ref xIns, .ref xShr, .ref xSta, .ref xTur])), (fL, .inl (cI, 576, (.inl (fun _ => 0)))), (fT, .inl (cI, 3, (.inl (fun _ => 0))))]) (w1 := [(xSta, .inr (7, [.int (-1), .ref fL, .ref fS, .ref fP, .ref fT, .ref fA, .ref fQ, .ref fR, .int g_14, .ref fN])), (fS, .inl (cI, 3, (.inl g_15))), (fA, .inl (cI, 576, (.inl g_16))), (fQ, .inl (cI, 576, (.inl g_17))), (fR, .inl (cI, 576, (.inl g_18)))]) hP hD [1, 2, 3, 4, 5] [0, 6, 7] rfl rfl (by decide) (by decide) hk1 hFc hP1 hD1
          generalize H1 = H at hP hS ⊢
          have hP : va_P (dC, dI) vwCl [(x0, .inr (10, [.ref xTape, .ref xReader, .ref xBag, .ref xBld, .ref xAng, .ref xSum, .ref xPik, .int 0, .ref xHan, .ref xIns, .ref xShr, .ref xSta, .ref xTur])), (fL, .inl (cI, 576, (.inl (fun _ => 0)))), (fT, .inl (cI, 3, (.inl (fun _ => 0)))), (xSta, .inr (7, [.int (-1), .ref fL, .ref fS, .ref fP, .ref fT, .ref fA, .ref fQ, .ref fR, .int g_14, .ref fN])), (fS, .inl (cI, 3, (.inl g_15))), (fA, .inl (cI, 576, (.inl g_16))), (fQ, .inl (cI, 576, (.inl g_17))), (fR, .inl (cI, 576, (.inl g_18)))] H := hP
          have hD : va_D A [(x0, .inr (10, [.ref xTape, .ref xReader, .ref xBag, .ref xBld, .ref xAng, .ref xSum, .ref xPik, .int 0, .ref xHan, .ref xIns, .ref xShr, .ref xSta, .ref xTur])), (fL, .inl (cI, 576, (.inl (fun _ => 0)))), (fT, .inl (cI, 3, (.inl (fun _ => 0)))), (xSta, .inr (7, [.int (-1), .ref fL, .ref fS, .ref fP, .ref fT, .ref fA, .ref fQ, .ref fR, .int g_14, .ref fN])), (fS, .inl (cI, 3, (.inl g_15))), (fA, .inl (cI, 576, (.inl g_16))), (fQ, .inl (cI, 576, (.inl g_17))), (fR, .inl (cI, 576, (.inl g_18)))] := hD
          have hr_13 := hw
          rcases hr_13 with ⟨rfl, ha9⟩ | ⟨rfl, ha9⟩
          · refine lv_if_ne (tgt := 73) hx hb dX10_plan_68 (by decide) (fun c => absurd (by decide) c) (fun _ => ?_)
            refine lv_iconst (v := (-1)) hx hb dX10_plan_71 (by decide) ?_
            refine W.widen (k := 0) (n := 0) (Nat.le_of_ble_eq_true rfl) (Nat.le_of_ble_eq_true rfl) ?_
            exact W.iret (v := (-1)) hx hb hr (fun t ht hW => ⟨⟨(-1), (), rfl, (pl_good hu hv (((if_neg (Nat.not_lt.mpr c_7)).trans (if_pos c_12)).trans ha9).symm), trivial⟩, hS.F ht⟩) hS.2.2 dX10_plan_72
          · refine lv_if_ne (tgt := 73) hx hb dX10_plan_68 (by decide) (fun _ => ?_) (fun c => absurd c (by decide))
            refine lv_aload_n hx hb dX10_plan_73 rfl (lv_at hl 0 rfl) ?_
            refine va_get (D := (dC, dI)) (ci := 10) (v := .ref xSta) (C := RX10) (T := TX10) (N := 13) hx hb hts hiX10 hown hK hP 0 rfl rfl 11 (by decide) (hts (.fieldLink RX10 84 "ScissorsTable" "stairs" "LScissorsTable$Stairs;") (by decide +kernel)) (fun _ h9 => h9) rfl dX10_plan_74 ?_
            refine lv_iload_n hx hb dX10_plan_77 rfl (lv_at hl 1 rfl) ?_
            refine lv_iload_n hx hb dX10_plan_78 rfl (lv_at hl 2 rfl) ?_
            refine lv_iload_n hx hb dX10_plan_79 rfl (lv_at hl 3 rfl) ?_
            refine lv_iload hx hb dX10_plan_80 (lv_at hl 4 rfl) ?_
            refine lv_iload hx hb dX10_plan_82 (lv_at hl 5 rfl) ?_
            rcases h_19 with h9 | ⟨n, g, ha, hn, hg0, hgn, hg⟩
            · exact absurd h9 ha9
            have hPc := hP.sub (ws' := [(xSta, .inr (7, [.int (-1), .ref fL, .ref fS, .ref fP, .ref fT, .ref fA, .ref fQ, .ref fR, .int g_14, .ref fN])), (fA, .inl (cI, 576, (.inl g_16))), (fQ, .inl (cI, 576, (.inl g_17))), (fR, .inl (cI, 576, (.inl g_18))), (fL, .inl (cI, 576, (.inl (fun _ => 0)))), (fT, .inl (cI, 3, (.inl (fun _ => 0))))]) [3, 5, 6, 7, 1, 2] rfl
            have hDc := hD.sub (ws' := [(xSta, .inr (7, [.int (-1), .ref fL, .ref fS, .ref fP, .ref fT, .ref fA, .ref fQ, .ref fR, .int g_14, .ref fN])), (fA, .inl (cI, 576, (.inl g_16))), (fQ, .inl (cI, 576, (.inl g_17))), (fR, .inl (cI, 576, (.inl g_18))), (fL, .inl (cI, 576, (.inl (fun _ => 0)))), (fT, .inl (cI, 3, (.inl (fun _ => 0))))]) [3, 5, 6, 7, 1, 2] (by decide) rfl
            have hFc := va_free (wc := [(xSta, .inr (7, [.int (-1), .ref fL, .ref fS, .ref fP, .ref fT, .ref fA, .ref fQ, .ref fR, .int g_14, .ref fN])), (fA, .inl (cI, 576, (.inl g_16))), (fQ, .inl (cI, 576, (.inl g_17))), (fR, .inl (cI, 576, (.inl g_18))), (fL, .inl (cI, 576, (.inl (fun _ => 0)))), (fT, .inl (cI, 3, (.inl (fun _ => 0))))]) hD hS hA [3, 5, 6, 7, 1, 2] rfl
            refine va_callv (va_runV (As := [.int (nI u0), .int (nI u1), .int (nI u2), .int (nI v0), .int (nI v1)]) (rest := []) ⟨hx, hb, hml, hown, hts⟩ (c_X7_keep l dC dI cB cI cJ H.size xSta fL fS fP fT fA fQ fR fN g_14 g_16 g_17 g_18 (fun _ => 0) (fun _ => 0) u0 u1 v0 v1 n (nI u2) g (⟨hu0, hu1⟩) (⟨hv0, hv1⟩) hn ((bx_cd_mk (z := v2) (by omega) (by omega)).symm.trans hg0.symm) ((bx_cd_mk (z := u2) (by omega) (by omega)).symm.trans hgn.symm) hg) (cwV 5 hts gX10_plan_X7_keep rfl rfl rfl (by decide +kernel) ⟨Nat.le_of_ble_eq_true rfl, Nat.le_of_ble_eq_true rfl⟩) ⟨fun a U g mk q => by obtain ⟨q0, q1, qP, qK, qD⟩ := q; exact ⟨q0, q1, qP, va_K.moved (u := U) (U := U.calling g mk a) (Vm.Alike.refl U.vm) qK, qD⟩, va_recv hK hP (ci := 7) (q0 := 3) rfl rfl, fun U hU hW => ⟨rfl, by rw [hU], by rw [hU]; exact hPc, va_K.moved hW.alike hK, hDc.weaken (fun _ _ _ _ => trivial)⟩⟩ rfl rfl hl.1 rfl (lv_room (Nat.le_of_ble_eq_true rfl)) dX10_plan_84 ⟨Nat.le_of_ble_eq_true rfl, Nat.le_of_ble_eq_true rfl⟩) hS (fun q _ h => hFc q h) hFc (fun u t H1 locs ht hvm hw hB hz1 hk1 hS => ?_)
            obtain ⟨hP1, hK1, hD1⟩ := hB
            rw [ht] at hP1
            obtain ⟨hP, hD⟩ := va_join (wr := [(x0, .inr (10, [.ref xTape, .ref xReader, .ref xBag, .ref xBld, .ref xAng, .ref xSum, .ref xPik, .int 0, .ref xHan, .ref xIns, .ref xShr, .ref xSta, .ref xTur])), (fS, .inl (cI, 3, (.inl g_15)))]) (w1 := [(xSta, .inr (7, [.int (nI n), .ref fL, .ref fS, .ref fP, .ref fT, .ref fA, .ref fQ, .ref fR, .int g_14, .ref fN]))]) hP hD [3, 5, 6, 7, 1, 2] [0, 4] rfl rfl (by decide) (by decide) hk1 hFc hP1 hD1
            generalize H1 = H at hP hS ⊢
            have hP : va_P (dC, dI) vwCl [(x0, .inr (10, [.ref xTape, .ref xReader, .ref xBag, .ref xBld, .ref xAng, .ref xSum, .ref xPik, .int 0, .ref xHan, .ref xIns, .ref xShr, .ref xSta, .ref xTur])), (fS, .inl (cI, 3, (.inl g_15))), (xSta, .inr (7, [.int (nI n), .ref fL, .ref fS, .ref fP, .ref fT, .ref fA, .ref fQ, .ref fR, .int g_14, .ref fN]))] H := hP
            have hD : va_D A [(x0, .inr (10, [.ref xTape, .ref xReader, .ref xBag, .ref xBld, .ref xAng, .ref xSum, .ref xPik, .int 0, .ref xHan, .ref xIns, .ref xShr, .ref xSta, .ref xTur])), (fS, .inl (cI, 3, (.inl g_15))), (xSta, .inr (7, [.int (nI n), .ref fL, .ref fS, .ref fP, .ref fT, .ref fA, .ref fQ, .ref fR, .int g_14, .ref fN]))] := hD
            refine lv_aload_n hx hb dX10_plan_87 rfl (lv_at hl 0 rfl) ?_
            refine va_get (D := (dC, dI)) (ci := 10) (v := .ref xSta) (C := RX10) (T := TX10) (N := 13) hx hb hts hiX10 hown hK hP 0 rfl rfl 11 (by decide) (hts (.fieldLink RX10 84 "ScissorsTable" "stairs" "LScissorsTable$Stairs;") (by decide +kernel)) (fun _ h9 => h9) rfl dX10_plan_88 ?_
            refine va_get (D := (dC, dI)) (ci := 7) (v := .int (nI n)) (C := RX7) (T := TX7) (N := 10) hx hb hts hiX7 hown hK hP 2 rfl rfl 0 (by decide) (hts (.fieldLink RX10 137 "ScissorsTable$Stairs" "steps" "I") (by decide +kernel)) (fun _ h9 => h9) rfl dX10_plan_91 ?_
            refine W.widen (k := 0) (n := 0) (Nat.le_of_ble_eq_true rfl) (Nat.le_of_ble_eq_true rfl) ?_
            exact W.iret (v := (nI n)) hx hb hr (fun t ht hW => ⟨⟨(nI n), (), rfl, (pl_good hu hv (((if_neg (Nat.not_lt.mpr c_7)).trans (if_pos c_12)).trans ha).symm), trivial⟩, hS.F ht⟩) hS.2.2 dX10_plan_94
        · have c_12 : ¬ ((u0 * u1) * u2) = ((v0 * v1) * v2) := fun q9 => c_12 ((nI_eq (a := (u0 * u1) * u2) (b := (v0 * v1) * v2) (by omega) (by omega)).mpr q9)
          refine lv_bipush (v := (-3)) hx hb dX10_plan_51 (by decide) ?_
          refine W.widen (k := 0) (n := 0) (Nat.le_of_ble_eq_true rfl) (Nat.le_of_ble_eq_true rfl) ?_
          exact W.iret (v := (-3)) hx hb hr (fun t ht hW => ⟨⟨(-3), (), rfl, (pl_good hu hv ((if_neg (Nat.not_lt.mpr c_7)).trans (if_neg c_12)).symm), trivial⟩, hS.F ht⟩) hS.2.2 dX10_plan_53
      · have c_7 : ¬ ((u0 * u1) * u2) ≤ 1728 := fun q9 => c_7 ((nI_leI (a := (u0 * u1) * u2) (b := 1728) (by omega) (by omega)).mpr q9)
        refine lv_bipush (v := (-2)) hx hb dX10_plan_32 (by decide) ?_
        refine W.widen (k := 0) (n := 0) (Nat.le_of_ble_eq_true rfl) (Nat.le_of_ble_eq_true rfl) ?_
        exact W.iret (v := (-2)) hx hb hr (fun t ht hW => ⟨⟨(-2), (), rfl, (pl_good hu hv (if_pos (Nat.not_le.mp c_7)).symm), trivial⟩, hS.F ht⟩) hS.2.2 dX10_plan_34
