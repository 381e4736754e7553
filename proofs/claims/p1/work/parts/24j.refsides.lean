set_option maxRecDepth 20000 in
theorem ggX11_areSides_X11_isIn : GoodIn wsX11_areSides wsX11_isIn := goodIn_r _ [5] (by decide +kernel) (by decide +kernel)
set_option maxRecDepth 20000 in
theorem gX11_areSides_X11_isIn : GoodIn wsX11_areSides (va_wsS RX11 303 yX11_isIn wsX11_isIn) := goodIn_app (goodIn_of _ (by decide +kernel)) ggX11_areSides_X11_isIn
theorem dX11_areSides_0 : decode cX11_areSides 0 = .ok (.iload_n 0, 1) := by decide +kernel
theorem dX11_areSides_1 : decode cX11_areSides 1 = .ok (.i2l, 1) := by decide +kernel
theorem dX11_areSides_2 : decode cX11_areSides 2 = .ok (.lconst 1, 1) := by decide +kernel
theorem dX11_areSides_3 : decode cX11_areSides 3 = .ok (.ldc2_w 446, 3) := by decide +kernel
theorem dX11_areSides_6 : decode cX11_areSides 6 = .ok (.invokestatic 303, 3) := by decide +kernel
theorem dX11_areSides_9 : decode cX11_areSides 9 = .ok (.ifCond .eq 31, 3) := by decide +kernel
theorem dX11_areSides_12 : decode cX11_areSides 12 = .ok (.iload_n 1, 1) := by decide +kernel
theorem dX11_areSides_13 : decode cX11_areSides 13 = .ok (.i2l, 1) := by decide +kernel
theorem dX11_areSides_14 : decode cX11_areSides 14 = .ok (.lconst 1, 1) := by decide +kernel
theorem dX11_areSides_15 : decode cX11_areSides 15 = .ok (.ldc2_w 446, 3) := by decide +kernel
theorem dX11_areSides_18 : decode cX11_areSides 18 = .ok (.invokestatic 303, 3) := by decide +kernel
theorem dX11_areSides_21 : decode cX11_areSides 21 = .ok (.ifCond .eq 19, 3) := by decide +kernel
theorem dX11_areSides_24 : decode cX11_areSides 24 = .ok (.iload_n 2, 1) := by decide +kernel
theorem dX11_areSides_25 : decode cX11_areSides 25 = .ok (.i2l, 1) := by decide +kernel
theorem dX11_areSides_26 : decode cX11_areSides 26 = .ok (.lconst 1, 1) := by decide +kernel
theorem dX11_areSides_27 : decode cX11_areSides 27 = .ok (.ldc2_w 446, 3) := by decide +kernel
theorem dX11_areSides_30 : decode cX11_areSides 30 = .ok (.invokestatic 303, 3) := by decide +kernel
theorem dX11_areSides_33 : decode cX11_areSides 33 = .ok (.ifCond .eq 7, 3) := by decide +kernel
theorem dX11_areSides_36 : decode cX11_areSides 36 = .ok (.iconst 1, 1) := by decide +kernel
theorem dX11_areSides_37 : decode cX11_areSides 37 = .ok (.goto 4, 3) := by decide +kernel
theorem dX11_areSides_40 : decode cX11_areSides 40 = .ok (.iconst 0, 1) := by decide +kernel
theorem dX11_areSides_41 : decode cX11_areSides 41 = .ok (.ireturn, 1) := by decide +kernel
set_option maxHeartbeats 4000000 in
set_option maxRecDepth 100000 in
theorem c_X11_areSides (l : Launch) (dC : Nat → ClassId) (dI : Nat → Nat → Nat) (cB cI cJ : ClassId) (sz : Nat)  (p0 p1 p2 : Int32) : Met l yX11_areSides wsX11_areSides ({ frames := 2, cells := 0, slots := 0, locals := 49 }) (va_Pc [.int p0, .int p1, .int p2] (fun U => U.heap.size = sz ∧ va_P (dC, dI) vwCl [] U.heap ∧ va_K (dC, dI) vwCl [(cB, .byte), (cI, .int), (cJ, .long)] U ∧ va_D (fun _ => True) [])) (va_Qi (fun (r : Int32) (_ : Unit) => (r = 0 ∧ ¬ ((1 ≤ p0.toInt ∧ p0.toInt ≤ 24) ∧ (1 ≤ p1.toInt ∧ p1.toInt ≤ 24) ∧ (1 ≤ p2.toInt ∧ p2.toInt ≤ 24))) ∨ (r = 1 ∧ ((1 ≤ p0.toInt ∧ p0.toInt ≤ 24) ∧ (1 ≤ p1.toInt ∧ p1.toInt ≤ 24) ∧ (1 ≤ p2.toInt ∧ p2.toInt ≤ 24)))) (fun _ _ => True) (va_A [] sz)) 0 0 (va_A [] sz) := by
  refine Met.ofW (cc := cX11_areSides) (maxL := 3) (ret := (some .boolean)) (by decide) rfl ?_
  intro p e s m args below meth c s₁ B hml hv
  obtain ⟨rfl, hsz, hP, hK, hD0⟩ := hv
  have hx := B.exec
  have hb := B.bytes
  have hr := B.returns
  have hts := atoms_spec (ws := wsX11_areSides) B.pre
  have hown : s.vm.findClass RX11 = some m.cls := findClass_of_methodNamed B.named
  have hlocks := B.notSynchronized
  subst hsz
  have hD := hD0.self (sz := s.heap.size)
  generalize hAe : va_A [] s.heap.size = A at hD ⊢
  have hA : ∀ q : Nat, s.heap.size ≤ q → A q := fun q h => by rw [← hAe]; exact Or.inr h
  have hS : va_S A s.heap s.heap [] := va_S.rf
  have hP : va_P (dC, dI) vwCl [] s.heap := hP
  have hl := lv_entry ([.int p0, .int p1, .int p2]) (n := 3) (Nat.le_of_ble_eq_true rfl)
  rw [lg_entry_eq]
  generalize (lg_sl ([.int p0, .int p1, .int p2]) ++ List.replicate (3 - (lg_sl ([.int p0, .int p1, .int p2])).length) Slot.unset).toArray = ls at hl ⊢
  have hl : lv_has ls 3 [(0, .int p0), (1, .int p1), (2, .int p2)] := hl
  refine lv_iload_n hx hb dX11_areSides_0 rfl (lv_at hl 0 rfl) ?_
  refine lv_i2l hx hb dX11_areSides_1 rfl ?_
  refine lv_lconst (v := 1) hx hb dX11_areSides_2 (by decide) ?_
  refine lv_ldc2 (v := 24) hx hb hown (hts (.constantLong RX11 446 24) (by decide +kernel)) dX11_areSides_3 ?_
  have hPc := hP.sub (ws' := []) [] rfl
  have hDc := hD.sub (ws' := []) [] (by decide) rfl
  have hFc := va_free (wc := []) hD hS hA [] rfl
  refine va_calli (va_runS (As := [.long (p0).toInt64, .long 1, .long 24]) (rest := []) ⟨hx, hb, hml, hown, hts⟩ (c_X11_isIn l dC dI cB cI cJ s.heap.size (p0).toInt64 1 24) (va_cwS 3 hts gX11_areSides_X11_isIn rfl rfl rfl (by decide +kernel) ⟨Nat.le_of_ble_eq_true rfl, Nat.le_of_ble_eq_true rfl⟩) ⟨fun a U g mk q => by obtain ⟨q0, q1, qP, qK, qD⟩ := q; exact ⟨q0, q1, qP, va_K.moved (u := U) (U := U.calling g mk a) (Vm.Alike.refl U.vm) qK, qD⟩, fun U hU hW => ⟨rfl, by rw [hU], by rw [hU]; exact hPc, va_K.moved hW.alike hK, hDc.weaken (fun _ _ _ _ => trivial)⟩⟩ rfl rfl hl.1 rfl (lv_room (Nat.le_of_ble_eq_true rfl)) dX11_areSides_6 ⟨Nat.le_of_ble_eq_true rfl, Nat.le_of_ble_eq_true rfl⟩) hS (fun q _ h => hFc q h) hFc (fun r_1 u t H1 locs ht hvm hw hB hz1 hk1 hS => ?_)
  have hP1 : va_P (dC, dI) vwCl [] H1 := fun k q h => by simp at h
  have hD1 : va_D (va_A [] s.heap.size) [] := ⟨fun i j p q h => by simp at h, fun k q h => by simp at h⟩
  obtain ⟨hP, hD⟩ := va_join (wr := []) (w1 := []) hP hD [] [] rfl rfl (by decide) (by decide) hk1 hFc hP1 hD1
  generalize H1 = H at hP hS ⊢
  have hP : va_P (dC, dI) vwCl [] H := hP
  have hD : va_D A [] := hD
  rcases hw with ⟨rfl, k_2⟩ | ⟨rfl, k_2⟩
  · refine lv_if_eq (tgt := 40) hx hb dX11_areSides_9 (by decide) (fun _ => ?_) (fun c => absurd (by decide) c)
    refine lv_iconst (v := 0) hx hb dX11_areSides_40 (by decide) ?_
    refine W.widen (k := 0) (n := 0) (Nat.le_of_ble_eq_true rfl) (Nat.le_of_ble_eq_true rfl) ?_
    exact W.zret (v := 0) hx hb hr (by decide) (fun t ht hW => ⟨⟨0, (), rfl, (Or.inl ⟨rfl, (by (try simp only [nk_lt, nk_le, nk_eq, nk_wd, nk_c0, nk_c1, nk_c2, nk_c3, nk_c4, nk_c5, nk_c6, nk_c15, nk_c16, nk_c24, nk_c47, nk_c48, nk_c600, nk_c1728, nk_m1, nk_l0, nk_l1, nk_l2, nk_l3, nk_l5, nk_l15, nk_l24, nk_l47] at k_2); omega)⟩), trivial⟩, hS.F ht⟩) hS.2.2 dX11_areSides_41
  · refine lv_if_eq (tgt := 40) hx hb dX11_areSides_9 (by decide) (fun c => absurd c (by decide)) (fun _ => ?_)
    refine lv_iload_n hx hb dX11_areSides_12 rfl (lv_at hl 1 rfl) ?_
    refine lv_i2l hx hb dX11_areSides_13 rfl ?_
    refine lv_lconst (v := 1) hx hb dX11_areSides_14 (by decide) ?_
    refine lv_ldc2 (v := 24) hx hb hown (hts (.constantLong RX11 446 24) (by decide +kernel)) dX11_areSides_15 ?_
    have hPc := hP.sub (ws' := []) [] rfl
    have hDc := hD.sub (ws' := []) [] (by decide) rfl
    have hFc := va_free (wc := []) hD hS hA [] rfl
    refine va_calli (va_runS (As := [.long (p1).toInt64, .long 1, .long 24]) (rest := []) ⟨hx, hb, hml, hown, hts⟩ (c_X11_isIn l dC dI cB cI cJ H.size (p1).toInt64 1 24) (va_cwS 3 hts gX11_areSides_X11_isIn rfl rfl rfl (by decide +kernel) ⟨Nat.le_of_ble_eq_true rfl, Nat.le_of_ble_eq_true rfl⟩) ⟨fun a U g mk q => by obtain ⟨q0, q1, qP, qK, qD⟩ := q; exact ⟨q0, q1, qP, va_K.moved (u := U) (U := U.calling g mk a) (Vm.Alike.refl U.vm) qK, qD⟩, fun U hU hW => ⟨rfl, by rw [hU], by rw [hU]; exact hPc, va_K.moved hW.alike hK, hDc.weaken (fun _ _ _ _ => trivial)⟩⟩ rfl rfl hl.1 rfl (lv_room (Nat.le_of_ble_eq_true rfl)) dX11_areSides_18 ⟨Nat.le_of_ble_eq_true rfl, Nat.le_of_ble_eq_true rfl⟩) hS (fun q _ h => hFc q h) hFc (fun r_3 u t H1 locs ht hvm hw hB hz1 hk1 hS => ?_)
    have hP1 : va_P (dC, dI) vwCl [] H1 := fun k q h => by simp at h
    have hD1 : va_D (va_A [] H.size) [] := ⟨fun i j p q h => by simp at h, fun k q h => by simp at h⟩
    obtain ⟨hP, hD⟩ := va_join (wr := []) (w1 := []) hP hD [] [] rfl rfl (by decide) (by decide) hk1 hFc hP1 hD1
    generalize H1 = H at hP hS ⊢
    have hP : va_P (dC, dI) vwCl [] H := hP
    have hD : va_D A [] := hD
    rcases hw with ⟨rfl, k_4⟩ | ⟨rfl, k_4⟩
    · refine lv_if_eq (tgt := 40) hx hb dX11_areSides_21 (by decide) (fun _ => ?_) (fun c => absurd (by decide) c)
      refine lv_iconst (v := 0) hx hb dX11_areSides_40 (by decide) ?_
      refine W.widen (k := 0) (n := 0) (Nat.le_of_ble_eq_true rfl) (Nat.le_of_ble_eq_true rfl) ?_
      exact W.zret (v := 0) hx hb hr (by decide) (fun t ht hW => ⟨⟨0, (), rfl, (Or.inl ⟨rfl, (by (try simp only [nk_lt, nk_le, nk_eq, nk_wd, nk_c0, nk_c1, nk_c2, nk_c3, nk_c4, nk_c5, nk_c6, nk_c15, nk_c16, nk_c24, nk_c47, nk_c48, nk_c600, nk_c1728, nk_m1, nk_l0, nk_l1, nk_l2, nk_l3, nk_l5, nk_l15, nk_l24, nk_l47] at k_2 k_4); omega)⟩), trivial⟩, hS.F ht⟩) hS.2.2 dX11_areSides_41
    · refine lv_if_eq (tgt := 40) hx hb dX11_areSides_21 (by decide) (fun c => absurd c (by decide)) (fun _ => ?_)
      refine lv_iload_n hx hb dX11_areSides_24 rfl (lv_at hl 2 rfl) ?_
      refine lv_i2l hx hb dX11_areSides_25 rfl ?_
      refine lv_lconst (v := 1) hx hb dX11_areSides_26 (by decide) ?_
      refine lv_ldc2 (v := 24) hx hb hown (hts (.constantLong RX11 446 24) (by decide +kernel)) dX11_areSides_27 ?_
      have hPc := hP.sub (ws' := []) [] rfl
      have hDc := hD.sub (ws' := []) [] (by decide) rfl
      have hFc := va_free (wc := []) hD hS hA [] rfl
      refine va_calli (va_runS (As := [.long (p2).toInt64, .long 1, .long 24]) (rest := []) ⟨hx, hb, hml, hown, hts⟩ (c_X11_isIn l dC dI cB cI cJ H.size (p2).toInt64 1 24) (va_cwS 3 hts gX11_areSides_X11_isIn rfl rfl rfl (by decide +kernel) ⟨Nat.le_of_ble_eq_true rfl, Nat.le_of_ble_eq_true rfl⟩) ⟨fun a U g mk q => by obtain ⟨q0, q1, qP, qK, qD⟩ := q; exact ⟨q0, q1, qP, va_K.moved (u := U) (U := U.calling g mk a) (Vm.Alike.refl U.vm) qK, qD⟩, fun U hU hW => ⟨rfl, by rw [hU], by rw [hU]; exact hPc, va_K.moved hW.alike hK, hDc.weaken (fun _ _ _ _ => trivial)⟩⟩ rfl rfl hl.1 rfl (lv_room (Nat.le_of_ble_eq_true rfl)) dX11_areSides_30 ⟨Nat.le_of_ble_eq_true rfl, Nat.le_of_ble_eq_true rfl⟩) hS (fun q _ h => hFc q h) hFc (fun r_5 u t H1 locs ht hvm hw hB hz1 hk1 hS => ?_)
      have hP1 : va_P (dC, dI) vwCl [] H1 := fun k q h => by simp at h
      have hD1 : va_D (va_A [] H.size) [] := ⟨fun i j p q h => by simp at h, fun k q h => by simp at h⟩
      obtain ⟨hP, hD⟩ := va_join (wr := []) (w1 := []) hP hD [] [] rfl rfl (by decide) (by decide) hk1 hFc hP1 hD1
      generalize H1 = H at hP hS ⊢
      have hP : va_P (dC, dI) vwCl [] H := hP
      have hD : va_D A [] := hD
      rcases hw with ⟨rfl, k_6⟩ | ⟨rfl, k_6⟩
      · refine lv_if_eq (tgt := 40) hx hb dX11_areSides_33 (by decide) (fun _ => ?_) (fun c => absurd (by decide) c)
        refine lv_iconst (v := 0) hx hb dX11_areSides_40 (by decide) ?_
        refine W.widen (k := 0) (n := 0) (Nat.le_of_ble_eq_true rfl) (Nat.le_of_ble_eq_true rfl) ?_
        exact W.zret (v := 0) hx hb hr (by decide) (fun t ht hW => ⟨⟨0, (), rfl, (Or.inl ⟨rfl, (by (try simp only [nk_lt, nk_le, nk_eq, nk_wd, nk_c0, nk_c1, nk_c2, nk_c3, nk_c4, nk_c5, nk_c6, nk_c15, nk_c16, nk_c24, nk_c47, nk_c48, nk_c600, nk_c1728, nk_m1, nk_l0, nk_l1, nk_l2, nk_l3, nk_l5, nk_l15, nk_l24, nk_l47] at k_2 k_4 k_6); omega)⟩), trivial⟩, hS.F ht⟩) hS.2.2 dX11_areSides_41
      · refine lv_if_eq (tgt := 40) hx hb dX11_areSides_33 (by decide) (fun c => absurd c (by decide)) (fun _ => ?_)
        refine lv_iconst (v := 1) hx hb dX11_areSides_36 (by decide) ?_
        refine lv_goto (tgt := 41) hx hb dX11_areSides_37 (by decide) ?_
        refine W.widen (k := 0) (n := 0) (Nat.le_of_ble_eq_true rfl) (Nat.le_of_ble_eq_true rfl) ?_
        exact W.zret (v := 1) hx hb hr (by decide) (fun t ht hW => ⟨⟨1, (), rfl, (Or.inr ⟨rfl, (by (try simp only [nk_lt, nk_le, nk_eq, nk_wd, nk_c0, nk_c1, nk_c2, nk_c3, nk_c4, nk_c5, nk_c6, nk_c15, nk_c16, nk_c24, nk_c47, nk_c48, nk_c600, nk_c1728, nk_m1, nk_l0, nk_l1, nk_l2, nk_l3, nk_l5, nk_l15, nk_l24, nk_l47] at k_2 k_4 k_6); omega)⟩), trivial⟩, hS.F ht⟩) hS.2.2 dX11_areSides_41
