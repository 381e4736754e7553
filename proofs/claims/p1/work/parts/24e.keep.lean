set_option maxRecDepth 20000 in
theorem ggX7_keep_X7_boxOf : GoodIn wsX7_keep wsX7_boxOf := goodIn_r _ [10] (by decide +kernel) (by decide +kernel)
set_option maxRecDepth 20000 in
theorem gX7_keep_X7_boxOf : GoodIn wsX7_keep (va_wsS RX7 45 yX7_boxOf wsX7_boxOf) := goodIn_app (goodIn_of _ (by decide +kernel)) ggX7_keep_X7_boxOf
theorem dX7_keep_0 : decode cX7_keep 0 = .ok (.iload_n 1, 1) := by decide +kernel
theorem dX7_keep_1 : decode cX7_keep 1 = .ok (.iload_n 2, 1) := by decide +kernel
theorem dX7_keep_2 : decode cX7_keep 2 = .ok (.invokestatic 45, 3) := by decide +kernel
theorem dX7_keep_5 : decode cX7_keep 5 = .ok (.istore 6, 2) := by decide +kernel
theorem dX7_keep_7 : decode cX7_keep 7 = .ok (.iconst 0, 1) := by decide +kernel
theorem dX7_keep_8 : decode cX7_keep 8 = .ok (.istore 7, 2) := by decide +kernel
theorem dX7_keep_10 : decode cX7_keep 10 = .ok (.iload 4, 2) := by decide +kernel
theorem dX7_keep_12 : decode cX7_keep 12 = .ok (.iload 5, 2) := by decide +kernel
theorem dX7_keep_14 : decode cX7_keep 14 = .ok (.invokestatic 45, 3) := by decide +kernel
theorem dX7_keep_17 : decode cX7_keep 17 = .ok (.istore 8, 2) := by decide +kernel
theorem dX7_keep_19 : decode cX7_keep 19 = .ok (.iconst 0, 1) := by decide +kernel
theorem dX7_keep_20 : decode cX7_keep 20 = .ok (.istore 9, 2) := by decide +kernel
theorem dX7_keep_22 : decode cX7_keep 22 = .ok (.iload 9, 2) := by decide +kernel
theorem dX7_keep_24 : decode cX7_keep 24 = .ok (.sipush 576, 3) := by decide +kernel
theorem dX7_keep_27 : decode cX7_keep 27 = .ok (.if_icmp .ge 47, 3) := by decide +kernel
theorem dX7_keep_30 : decode cX7_keep 30 = .ok (.iload 8, 2) := by decide +kernel
theorem dX7_keep_32 : decode cX7_keep 32 = .ok (.ifCond .lt 42, 3) := by decide +kernel
theorem dX7_keep_35 : decode cX7_keep 35 = .ok (.iload 8, 2) := by decide +kernel
theorem dX7_keep_37 : decode cX7_keep 37 = .ok (.iload 6, 2) := by decide +kernel
theorem dX7_keep_39 : decode cX7_keep 39 = .ok (.if_icmp .eq 35, 3) := by decide +kernel
theorem dX7_keep_42 : decode cX7_keep 42 = .ok (.aload_n 0, 1) := by decide +kernel
theorem dX7_keep_43 : decode cX7_keep 43 = .ok (.getfield 31, 3) := by decide +kernel
theorem dX7_keep_46 : decode cX7_keep 46 = .ok (.iload 9, 2) := by decide +kernel
theorem dX7_keep_48 : decode cX7_keep 48 = .ok (.aload_n 0, 1) := by decide +kernel
theorem dX7_keep_49 : decode cX7_keep 49 = .ok (.getfield 34, 3) := by decide +kernel
theorem dX7_keep_52 : decode cX7_keep 52 = .ok (.iload 8, 2) := by decide +kernel
theorem dX7_keep_54 : decode cX7_keep 54 = .ok (.iaload, 1) := by decide +kernel
theorem dX7_keep_55 : decode cX7_keep 55 = .ok (.iastore, 1) := by decide +kernel
theorem dX7_keep_56 : decode cX7_keep 56 = .ok (.iinc 7 1, 3) := by decide +kernel
theorem dX7_keep_59 : decode cX7_keep 59 = .ok (.aload_n 0, 1) := by decide +kernel
theorem dX7_keep_60 : decode cX7_keep 60 = .ok (.getfield 28, 3) := by decide +kernel
theorem dX7_keep_63 : decode cX7_keep 63 = .ok (.iload 8, 2) := by decide +kernel
theorem dX7_keep_65 : decode cX7_keep 65 = .ok (.iaload, 1) := by decide +kernel
theorem dX7_keep_66 : decode cX7_keep 66 = .ok (.istore 8, 2) := by decide +kernel
theorem dX7_keep_68 : decode cX7_keep 68 = .ok (.iinc 9 1, 3) := by decide +kernel
theorem dX7_keep_71 : decode cX7_keep 71 = .ok (.goto (-49), 3) := by decide +kernel
theorem dX7_keep_74 : decode cX7_keep 74 = .ok (.iconst 0, 1) := by decide +kernel
theorem dX7_keep_75 : decode cX7_keep 75 = .ok (.istore 9, 2) := by decide +kernel
theorem dX7_keep_77 : decode cX7_keep 77 = .ok (.iload 9, 2) := by decide +kernel
theorem dX7_keep_79 : decode cX7_keep 79 = .ok (.iload 7, 2) := by decide +kernel
theorem dX7_keep_81 : decode cX7_keep 81 = .ok (.if_icmp .ge 28, 3) := by decide +kernel
theorem dX7_keep_84 : decode cX7_keep 84 = .ok (.aload_n 0, 1) := by decide +kernel
theorem dX7_keep_85 : decode cX7_keep 85 = .ok (.getfield 15, 3) := by decide +kernel
theorem dX7_keep_88 : decode cX7_keep 88 = .ok (.iload 9, 2) := by decide +kernel
theorem dX7_keep_90 : decode cX7_keep 90 = .ok (.aload_n 0, 1) := by decide +kernel
theorem dX7_keep_91 : decode cX7_keep 91 = .ok (.getfield 31, 3) := by decide +kernel
theorem dX7_keep_94 : decode cX7_keep 94 = .ok (.iload 7, 2) := by decide +kernel
theorem dX7_keep_96 : decode cX7_keep 96 = .ok (.iconst 1, 1) := by decide +kernel
theorem dX7_keep_97 : decode cX7_keep 97 = .ok (.isub, 1) := by decide +kernel
theorem dX7_keep_98 : decode cX7_keep 98 = .ok (.iload 9, 2) := by decide +kernel
theorem dX7_keep_100 : decode cX7_keep 100 = .ok (.isub, 1) := by decide +kernel
theorem dX7_keep_101 : decode cX7_keep 101 = .ok (.iaload, 1) := by decide +kernel
theorem dX7_keep_102 : decode cX7_keep 102 = .ok (.iastore, 1) := by decide +kernel
theorem dX7_keep_103 : decode cX7_keep 103 = .ok (.iinc 9 1, 3) := by decide +kernel
theorem dX7_keep_106 : decode cX7_keep 106 = .ok (.goto (-29), 3) := by decide +kernel
theorem dX7_keep_109 : decode cX7_keep 109 = .ok (.aload_n 0, 1) := by decide +kernel
theorem dX7_keep_110 : decode cX7_keep 110 = .ok (.getfield 25, 3) := by decide +kernel
theorem dX7_keep_113 : decode cX7_keep 113 = .ok (.iconst 0, 1) := by decide +kernel
theorem dX7_keep_114 : decode cX7_keep 114 = .ok (.iload_n 1, 1) := by decide +kernel
theorem dX7_keep_115 : decode cX7_keep 115 = .ok (.iastore, 1) := by decide +kernel
theorem dX7_keep_116 : decode cX7_keep 116 = .ok (.aload_n 0, 1) := by decide +kernel
theorem dX7_keep_117 : decode cX7_keep 117 = .ok (.getfield 25, 3) := by decide +kernel
theorem dX7_keep_120 : decode cX7_keep 120 = .ok (.iconst 1, 1) := by decide +kernel
theorem dX7_keep_121 : decode cX7_keep 121 = .ok (.iload_n 2, 1) := by decide +kernel
theorem dX7_keep_122 : decode cX7_keep 122 = .ok (.iastore, 1) := by decide +kernel
theorem dX7_keep_123 : decode cX7_keep 123 = .ok (.aload_n 0, 1) := by decide +kernel
theorem dX7_keep_124 : decode cX7_keep 124 = .ok (.getfield 25, 3) := by decide +kernel
theorem dX7_keep_127 : decode cX7_keep 127 = .ok (.iconst 2, 1) := by decide +kernel
theorem dX7_keep_128 : decode cX7_keep 128 = .ok (.iload_n 3, 1) := by decide +kernel
theorem dX7_keep_129 : decode cX7_keep 129 = .ok (.iastore, 1) := by decide +kernel
theorem dX7_keep_130 : decode cX7_keep 130 = .ok (.aload_n 0, 1) := by decide +kernel
theorem dX7_keep_131 : decode cX7_keep 131 = .ok (.iload 7, 2) := by decide +kernel
theorem dX7_keep_133 : decode cX7_keep 133 = .ok (.putfield 11, 3) := by decide +kernel
theorem dX7_keep_136 : decode cX7_keep 136 = .ok (.return_, 1) := by decide +kernel
set_option maxHeartbeats 4000000 in
set_option maxRecDepth 100000 in
theorem c_X7_keep (l : Launch) (dC : Nat → ClassId) (dI : Nat → Nat → Nat) (cB cI cJ : ClassId) (sz : Nat) (xSta fL fS fP fT fA fQ fR fN : Nat) (w9 : Int32) (fa fq fr fl ft : Nat → Int32) (u0 u1 v0 v1 n : Nat) (w2 : Int32) (g : Nat → Nat) (hu : (1 ≤ u0 ∧ u0 ≤ 24) ∧ (1 ≤ u1 ∧ u1 ≤ 24)) (hv : (1 ≤ v0 ∧ v0 ≤ 24) ∧ (1 ≤ v1 ∧ v1 ≤ 24)) (hn : n ≤ 95) (hg0 : (v0 - 1) * 24 + (v1 - 1) = g 0) (hgn : (u0 - 1) * 24 + (u1 - 1) = g n) (hg : ∀ i, i < n → g i < 576 ∧ g i ≠ g n ∧ fa (g i) = nI (g (i + 1))) : Met l yX7_keep wsX7_keep ({ frames := 2, cells := 0, slots := 0, locals := 45 }) (va_Pc [.ref xSta, .int (nI u0), .int (nI u1), .int w2, .int (nI v0), .int (nI v1)] (fun U => U.heap.size = sz ∧ va_P (dC, dI) vwCl [(xSta, .inr (7, [.int (-1), .ref fL, .ref fS, .ref fP, .ref fT, .ref fA, .ref fQ, .ref fR, .int w9, .ref fN])), (fA, .inl (cI, 576, (.inl fa))), (fQ, .inl (cI, 576, (.inl fq))), (fR, .inl (cI, 576, (.inl fr))), (fL, .inl (cI, 576, (.inl fl))), (fT, .inl (cI, 3, (.inl ft)))] U.heap ∧ va_K (dC, dI) vwCl [(cB, .byte), (cI, .int), (cJ, .long)] U ∧ va_D (fun _ => True) [(xSta, .inr (7, [.int (-1), .ref fL, .ref fS, .ref fP, .ref fT, .ref fA, .ref fQ, .ref fR, .int w9, .ref fN])), (fA, .inl (cI, 576, (.inl fa))), (fQ, .inl (cI, 576, (.inl fq))), (fR, .inl (cI, 576, (.inl fr))), (fL, .inl (cI, 576, (.inl fl))), (fT, .inl (cI, 3, (.inl ft)))])) (va_Qv (fun _ : Unit => True) (fun _ t => va_P (dC, dI) vwCl [(xSta, .inr (7, [.int (nI n), .ref fL, .ref fS, .ref fP, .ref fT, .ref fA, .ref fQ, .ref fR, .int w9, .ref fN]))] t.heap ∧ va_K (dC, dI) vwCl [(cB, .byte), (cI, .int), (cJ, .long)] t ∧ va_D (va_A [(xSta, .inr (7, [.int (-1), .ref fL, .ref fS, .ref fP, .ref fT, .ref fA, .ref fQ, .ref fR, .int w9, .ref fN])), (fA, .inl (cI, 576, (.inl fa))), (fQ, .inl (cI, 576, (.inl fq))), (fR, .inl (cI, 576, (.inl fr))), (fL, .inl (cI, 576, (.inl fl))), (fT, .inl (cI, 3, (.inl ft)))] sz) [(xSta, .inr (7, [.int (nI n), .ref fL, .ref fS, .ref fP, .ref fT, .ref fA, .ref fQ, .ref fR, .int w9, .ref fN]))]) (va_A [(xSta, .inr (7, [.int (-1), .ref fL, .ref fS, .ref fP, .ref fT, .ref fA, .ref fQ, .ref fR, .int w9, .ref fN])), (fA, .inl (cI, 576, (.inl fa))), (fQ, .inl (cI, 576, (.inl fq))), (fR, .inl (cI, 576, (.inl fr))), (fL, .inl (cI, 576, (.inl fl))), (fT, .inl (cI, 3, (.inl ft)))] sz)) 0 0 (va_A [(xSta, .inr (7, [.int (-1), .ref fL, .ref fS, .ref fP, .ref fT, .ref fA, .ref fQ, .ref fR, .int w9, .ref fN])), (fA, .inl (cI, 576, (.inl fa))), (fQ, .inl (cI, 576, (.inl fq))), (fR, .inl (cI, 576, (.inl fr))), (fL, .inl (cI, 576, (.inl fl))), (fT, .inl (cI, 3, (.inl ft)))] sz) := by
  refine Met.ofW (cc := cX7_keep) (maxL := 10) (ret := none) (by decide) rfl ?_
  intro p e s m args below meth c s₁ B hml hv
  obtain ⟨rfl, hsz, hP, hK, hD0⟩ := hv
  have hx := B.exec
  have hb := B.bytes
  have hr := B.returns
  have hts := atoms_spec (ws := wsX7_keep) B.pre
  have hown : s.vm.findClass RX7 = some m.cls := findClass_of_methodNamed B.named
  have hlocks := B.notSynchronized
  have hiX7 : ∀ w ∈ u_ws RX7 TX7 10, w ∈ wsX7_keep := by decide +kernel
  subst hsz
  have hD := hD0.self (sz := s.heap.size)
  generalize hAe : va_A [(xSta, .inr (7, [.int (-1), .ref fL, .ref fS, .ref fP, .ref fT, .ref fA, .ref fQ, .ref fR, .int w9, .ref fN])), (fA, .inl (cI, 576, (.inl fa))), (fQ, .inl (cI, 576, (.inl fq))), (fR, .inl (cI, 576, (.inl fr))), (fL, .inl (cI, 576, (.inl fl))), (fT, .inl (cI, 3, (.inl ft)))] s.heap.size = A at hD ⊢
  have hA : ∀ q : Nat, s.heap.size ≤ q → A q := fun q h => by rw [← hAe]; exact Or.inr h
  have hS : va_S A s.heap s.heap [] := va_S.rf
  have hP : va_P (dC, dI) vwCl [(xSta, .inr (7, [.int (-1), .ref fL, .ref fS, .ref fP, .ref fT, .ref fA, .ref fQ, .ref fR, .int w9, .ref fN])), (fA, .inl (cI, 576, (.inl fa))), (fQ, .inl (cI, 576, (.inl fq))), (fR, .inl (cI, 576, (.inl fr))), (fL, .inl (cI, 576, (.inl fl))), (fT, .inl (cI, 3, (.inl ft)))] s.heap := hP
  have hl := lv_entry ([.ref xSta, .int (nI u0), .int (nI u1), .int w2, .int (nI v0), .int (nI v1)]) (n := 10) (Nat.le_of_ble_eq_true rfl)
  rw [lg_entry_eq]
  generalize (lg_sl ([.ref xSta, .int (nI u0), .int (nI u1), .int w2, .int (nI v0), .int (nI v1)]) ++ List.replicate (10 - (lg_sl ([.ref xSta, .int (nI u0), .int (nI u1), .int w2, .int (nI v0), .int (nI v1)])).length) Slot.unset).toArray = ls at hl ⊢
  have hl : lv_has ls 10 [(0, .ref xSta), (1, .int (nI u0)), (2, .int (nI u1)), (3, .int w2), (4, .int (nI v0)), (5, .int (nI v1))] := hl
  have hg0l : g 0 < 576 := by omega
  have hgnl : g n < 576 := by omega
  refine lv_iload_n hx hb dX7_keep_0 rfl (lv_at hl 1 rfl) ?_
  refine lv_iload_n hx hb dX7_keep_1 rfl (lv_at hl 2 rfl) ?_
  have hPc := hP.sub (ws' := []) [] rfl
  have hDc := hD.sub (ws' := []) [] (by decide) rfl
  have hFc := va_free (wc := []) hD hS hA [] rfl
  refine va_calli (va_runS (As := [.int (nI u0), .int (nI u1)]) (rest := []) ⟨hx, hb, hml, hown, hts⟩ (c_X7_boxOf l dC dI cB cI cJ s.heap.size u0 u1 (by omega) (by omega)) (va_cwS 2 hts gX7_keep_X7_boxOf rfl rfl rfl (by decide +kernel) ⟨Nat.le_of_ble_eq_true rfl, Nat.le_of_ble_eq_true rfl⟩) ⟨fun a U g mk q => by obtain ⟨q0, q1, qP, qK, qD⟩ := q; exact ⟨q0, q1, qP, va_K.moved (u := U) (U := U.calling g mk a) (Vm.Alike.refl U.vm) qK, qD⟩, fun U hU hW => ⟨rfl, by rw [hU], by rw [hU]; exact hPc, va_K.moved hW.alike hK, hDc.weaken (fun _ _ _ _ => trivial)⟩⟩ rfl rfl hl.1 rfl (lv_room (Nat.le_of_ble_eq_true rfl)) dX7_keep_2 ⟨Nat.le_of_ble_eq_true rfl, Nat.le_of_ble_eq_true rfl⟩) hS (fun q _ h => hFc q h) hFc (fun r_1 u t H1 locs ht hvm hw hB hz1 hk1 hS => ?_)
  have hP1 : va_P (dC, dI) vwCl [] H1 := fun k q h => by simp at h
  have hD1 : va_D (va_A [] s.heap.size) [] := ⟨fun i j p q h => by simp at h, fun k q h => by simp at h⟩
  obtain ⟨hP, hD⟩ := va_join (wr := [(xSta, .inr (7, [.int (-1), .ref fL, .ref fS, .ref fP, .ref fT, .ref fA, .ref fQ, .ref fR, .int w9, .ref fN])), (fA, .inl (cI, 576, (.inl fa))), (fQ, .inl (cI, 576, (.inl fq))), (fR, .inl (cI, 576, (.inl fr))), (fL, .inl (cI, 576, (.inl fl))), (fT, .inl (cI, 3, (.inl ft)))]) (w1 := []) hP hD [] [0, 1, 2, 3, 4, 5] rfl rfl (by decide) (by decide) hk1 hFc hP1 hD1
  generalize H1 = H at hP hS ⊢
  have hP : va_P (dC, dI) vwCl [(xSta, .inr (7, [.int (-1), .ref fL, .ref fS, .ref fP, .ref fT, .ref fA, .ref fQ, .ref fR, .int w9, .ref fN])), (fA, .inl (cI, 576, (.inl fa))), (fQ, .inl (cI, 576, (.inl fq))), (fR, .inl (cI, 576, (.inl fr))), (fL, .inl (cI, 576, (.inl fl))), (fT, .inl (cI, 3, (.inl ft)))] H := hP
  have hD : va_D A [(xSta, .inr (7, [.int (-1), .ref fL, .ref fS, .ref fP, .ref fT, .ref fA, .ref fQ, .ref fR, .int w9, .ref fN])), (fA, .inl (cI, 576, (.inl fa))), (fQ, .inl (cI, 576, (.inl fq))), (fR, .inl (cI, 576, (.inl fr))), (fL, .inl (cI, 576, (.inl fl))), (fT, .inl (cI, 3, (.inl ft)))] := hD
  obtain rfl : r_1 = nI ((u0 - 1) * 24 + (u1 - 1)) := hw
  rw [hgn]
  refine lv_istore (lv' := [(6, .int (nI (g n))), (0, .ref xSta), (1, .int (nI u0)), (2, .int (nI u1)), (3, .int w2), (4, .int (nI v0)), (5, .int (nI v1))]) hx hb dX7_keep_5 hl (by decide) rfl (fun ls hl => ?_)
  refine lv_iconst (v := 0) hx hb dX7_keep_7 (by decide) ?_
  refine lv_istore (lv' := [(7, .int 0), (6, .int (nI (g n))), (0, .ref xSta), (1, .int (nI u0)), (2, .int (nI u1)), (3, .int w2), (4, .int (nI v0)), (5, .int (nI v1))]) hx hb dX7_keep_8 hl (by decide) rfl (fun ls hl => ?_)
  refine lv_iload hx hb dX7_keep_10 (lv_at hl 6 rfl) ?_
  refine lv_iload hx hb dX7_keep_12 (lv_at hl 7 rfl) ?_
  have hPc := hP.sub (ws' := []) [] rfl
  have hDc := hD.sub (ws' := []) [] (by decide) rfl
  have hFc := va_free (wc := []) hD hS hA [] rfl
  refine va_calli (va_runS (As := [.int (nI v0), .int (nI v1)]) (rest := []) ⟨hx, hb, hml, hown, hts⟩ (c_X7_boxOf l dC dI cB cI cJ H.size v0 v1 (by omega) (by omega)) (va_cwS 2 hts gX7_keep_X7_boxOf rfl rfl rfl (by decide +kernel) ⟨Nat.le_of_ble_eq_true rfl, Nat.le_of_ble_eq_true rfl⟩) ⟨fun a U g mk q => by obtain ⟨q0, q1, qP, qK, qD⟩ := q; exact ⟨q0, q1, qP, va_K.moved (u := U) (U := U.calling g mk a) (Vm.Alike.refl U.vm) qK, qD⟩, fun U hU hW => ⟨rfl, by rw [hU], by rw [hU]; exact hPc, va_K.moved hW.alike hK, hDc.weaken (fun _ _ _ _ => trivial)⟩⟩ rfl rfl hl.1 rfl (lv_room (Nat.le_of_ble_eq_true rfl)) dX7_keep_14 ⟨Nat.le_of_ble_eq_true rfl, Nat.le_of_ble_eq_true rfl⟩) hS (fun q _ h => hFc q h) hFc (fun r_2 u t H1 locs ht hvm hw hB hz1 hk1 hS => ?_)
  have hP1 : va_P (dC, dI) vwCl [] H1 := fun k q h => by simp at h
  have hD1 : va_D (va_A [] H.size) [] := ⟨fun i j p q h => by simp at h, fun k q h => by simp at h⟩
  obtain ⟨hP, hD⟩ := va_join (wr := [(xSta, .inr (7, [.int (-1), .ref fL, .ref fS, .ref fP, .ref fT, .ref fA, .ref fQ, .ref fR, .int w9, .ref fN])), (fA, .inl (cI, 576, (.inl fa))), (fQ, .inl (cI, 576, (.inl fq))), (fR, .inl (cI, 576, (.inl fr))), (fL, .inl (cI, 576, (.inl fl))), (fT, .inl (cI, 3, (.inl ft)))]) (w1 := []) hP hD [] [0, 1, 2, 3, 4, 5] rfl rfl (by decide) (by decide) hk1 hFc hP1 hD1
  generalize H1 = H at hP hS ⊢
  have hP : va_P (dC, dI) vwCl [(xSta, .inr (7, [.int (-1), .ref fL, .ref fS, .ref fP, .ref fT, .ref fA, .ref fQ, .ref fR, .int w9, .ref fN])), (fA, .inl (cI, 576, (.inl fa))), (fQ, .inl (cI, 576, (.inl fq))), (fR, .inl (cI, 576, (.inl fr))), (fL, .inl (cI, 576, (.inl fl))), (fT, .inl (cI, 3, (.inl ft)))] H := hP
  have hD : va_D A [(xSta, .inr (7, [.int (-1), .ref fL, .ref fS, .ref fP, .ref fT, .ref fA, .ref fQ, .ref fR, .int w9, .ref fN])), (fA, .inl (cI, 576, (.inl fa))), (fQ, .inl (cI, 576, (.inl fq))), (fR, .inl (cI, 576, (.inl fr))), (fL, .inl (cI, 576, (.inl fl))), (fT, .inl (cI, 3, (.inl ft)))] := hD
  obtain rfl : r_2 = nI ((v0 - 1) * 24 + (v1 - 1)) := hw
  rw [hg0]
  refine lv_istore (lv' := [(8, .int (nI (g 0))), (7, .int 0), (6, .int (nI (g n))), (0, .ref xSta), (1, .int (nI u0)), (2, .int (nI u1)), (3, .int w2), (4, .int (nI v0)), (5, .int (nI v1))]) hx hb dX7_keep_17 hl (by decide) rfl (fun ls hl => ?_)
  refine lv_iconst (v := 0) hx hb dX7_keep_19 (by decide) ?_
  refine lv_istore (lv' := [(9, .int 0), (8, .int (nI (g 0))), (7, .int 0), (6, .int (nI (g n))), (0, .ref xSta), (1, .int (nI u0)), (2, .int (nI u1)), (3, .int w2), (4, .int (nI v0)), (5, .int (nI v1))]) hx hb dX7_keep_20 hl (by decide) rfl (fun ls hl => ?_)
  refine nk_G (fun G inn out => ?_)
  have loop : ∀ (f : Nat) (k : Nat) (gq : Nat → Int32) (h5 : k + f = n + 1) (h6 : k ≤ n) (H : Heap) (locs : List Loc) (_ : va_P (dC, dI) vwCl [(xSta, .inr (7, [.int (-1), .ref fL, .ref fS, .ref fP, .ref fT, .ref fA, .ref fQ, .ref fR, .int w9, .ref fN])), (fA, .inl (cI, 576, (.inl fa))), (fQ, .inl (cI, 576, (.inl gq))), (fR, .inl (cI, 576, (.inl fr))), (fL, .inl (cI, 576, (.inl fl))), (fT, .inl (cI, 3, (.inl ft)))] H) (_ : va_D A [(xSta, .inr (7, [.int (-1), .ref fL, .ref fS, .ref fP, .ref fT, .ref fA, .ref fQ, .ref fR, .int w9, .ref fN])), (fA, .inl (cI, 576, (.inl fa))), (fQ, .inl (cI, 576, (.inl gq))), (fR, .inl (cI, 576, (.inl fr))), (fL, .inl (cI, 576, (.inl fl))), (fT, .inl (cI, 3, (.inl ft)))]) (_ : va_S A s.heap H locs) (ls : Array Slot) (_ : lv_has ls 10 [(0, .ref xSta), (1, .int (nI u0)), (2, .int (nI u1)), (3, .int w2), (6, .int (nI (g n))), (7, .int (nI k)), (8, .int (nI (g k))), (9, .int (nI k))]), G H locs (F0 m 22 ls []) := by
    intro f
    induction f with
    | zero =>
      intro k gq h5 h6 H locs hP hD hS ls hl
      exfalso; omega
    | succ f ih =>
      intro k gq h5 h6 H locs hP hD hS ls hl
      refine inn _ _ _ ?_
      have hgk : g k < 576 := by
        rcases (show k < n ∨ k = n by omega) with h9 | rfl
        · exact (hg k h9).1
        · omega
      refine lv_iload hx hb dX7_keep_22 (lv_at hl 7 rfl) ?_
      refine lv_sipush (v := 576) hx hb dX7_keep_24 (by decide) ?_
      refine lv_icmp_ge (tgt := 74) hx hb dX7_keep_27 (by decide) (fun c_3 => ?_) (fun c_3 => ?_)
      · have c_3 : 576 ≤ k := (nI_leI (a := 576) (b := k) (by omega) (by omega)).mp c_3
        exfalso
        omega
      · have c_3 : ¬ 576 ≤ k := fun q9 => c_3 ((nI_leI (a := 576) (b := k) (by omega) (by omega)).mpr q9)
        refine lv_iload hx hb dX7_keep_30 (lv_at hl 6 rfl) ?_
        refine lv_if_lt (tgt := 74) hx hb dX7_keep_32 (by decide) (fun c_4 => ?_) (fun c_4 => ?_)
        · have c_4 : (g k) < 0 := (nI_ltI (a := g k) (b := 0) (by omega) (by omega)).mp c_4
          exfalso
          omega
        · have c_4 : ¬ (g k) < 0 := fun q9 => c_4 ((nI_ltI (a := g k) (b := 0) (by omega) (by omega)).mpr q9)
          refine lv_iload hx hb dX7_keep_35 (lv_at hl 6 rfl) ?_
          refine lv_iload hx hb dX7_keep_37 (lv_at hl 4 rfl) ?_
          refine lv_icmp_eq (tgt := 74) hx hb dX7_keep_39 (by decide) (fun c_5 => ?_) (fun c_5 => ?_)
          · have c_5 : (g k) = (g n) := (nI_eq (a := g k) (b := g n) (by omega) (by omega)).mp c_5
            have hkn : k = n := by
              rcases (show k < n ∨ k = n by omega) with h9 | h9
              · exact absurd c_5 (hg k h9).2.1
              · exact h9
            rw [hkn] at hl
            have hl : lv_has ls 10 [(0, .ref xSta), (1, .int (nI u0)), (2, .int (nI u1)), (3, .int w2), (6, .int (nI (g n))), (7, .int (nI n)), (8, .int (nI (g n))), (9, .int (nI n))] := hl
            refine lv_iconst (v := 0) hx hb dX7_keep_74 (by decide) ?_
            refine lv_istore (lv' := [(9, .int 0), (0, .ref xSta), (1, .int (nI u0)), (2, .int (nI u1)), (3, .int w2), (6, .int (nI (g n))), (7, .int (nI n)), (8, .int (nI (g n)))]) hx hb dX7_keep_75 hl (by decide) rfl (fun ls hl => ?_)
            refine nk_G (fun G2 inn2 out2 => ?_)
            have loop2 : ∀ (f2 : Nat) (j : Nat) (gl : Nat → Int32) (j5 : j + f2 = n + 1) (j6 : j ≤ n) (H : Heap) (locs : List Loc) (_ : va_P (dC, dI) vwCl [(xSta, .inr (7, [.int (-1), .ref fL, .ref fS, .ref fP, .ref fT, .ref fA, .ref fQ, .ref fR, .int w9, .ref fN])), (fA, .inl (cI, 576, (.inl fa))), (fQ, .inl (cI, 576, (.inl gq))), (fR, .inl (cI, 576, (.inl fr))), (fL, .inl (cI, 576, (.inl gl))), (fT, .inl (cI, 3, (.inl ft)))] H) (_ : va_D A [(xSta, .inr (7, [.int (-1), .ref fL, .ref fS, .ref fP, .ref fT, .ref fA, .ref fQ, .ref fR, .int w9, .ref fN])), (fA, .inl (cI, 576, (.inl fa))), (fQ, .inl (cI, 576, (.inl gq))), (fR, .inl (cI, 576, (.inl fr))), (fL, .inl (cI, 576, (.inl gl))), (fT, .inl (cI, 3, (.inl ft)))]) (_ : va_S A s.heap H locs) (ls : Array Slot) (_ : lv_has ls 10 [(0, .ref xSta), (1, .int (nI u0)), (2, .int (nI u1)), (3, .int w2), (7, .int (nI n)), (9, .int (nI j))]), G2 H locs (F0 m 77 ls []) := by
              intro f2
              induction f2 with
              | zero =>
                intro j gl j5 j6 H locs hP hD hS ls hl
                exfalso; omega
              | succ f2 ih2 =>
                intro j gl j5 j6 H locs hP hD hS ls hl
                refine inn2 _ _ _ ?_
                refine lv_iload hx hb dX7_keep_77 (lv_at hl 5 rfl) ?_
                refine lv_iload hx hb dX7_keep_79 (lv_at hl 4 rfl) ?_
                refine lv_icmp_ge (tgt := 109) hx hb dX7_keep_81 (by decide) (fun c_6 => ?_) (fun c_6 => ?_)
                · have c_6 : n ≤ j := (nI_leI (a := n) (b := j) (by omega) (by omega)).mp c_6
                  refine lv_aload_n hx hb dX7_keep_109 rfl (lv_at hl 0 rfl) ?_
                  refine va_get (D := (dC, dI)) (ci := 7) (v := .ref fT) (C := RX7) (T := TX7) (N := 10) hx hb hts hiX7 hown hK hP 0 rfl rfl 4 (by decide) (hts (.fieldLink RX7 25 "ScissorsTable$Stairs" "start" "[I") (by decide +kernel)) (fun _ h9 => h9) rfl dX7_keep_110 ?_
                  refine lv_iconst (v := 0) hx hb dX7_keep_113 (by decide) ?_
                  refine lv_iload_n hx hb dX7_keep_114 rfl (lv_at hl 1 rfl) ?_
                  refine va_iast hx hb hK hP hD hS 5 1 rfl rfl (by show ¬ (_ ∨ _); decide) dX7_keep_115 (fun H locs hP hD hS => ?_)
                  rw [show (0 : Int32).toNatClampNeg = 0 from rfl] at hP hD
                  have hP : va_P (dC, dI) vwCl [(xSta, .inr (7, [.int (-1), .ref fL, .ref fS, .ref fP, .ref fT, .ref fA, .ref fQ, .ref fR, .int w9, .ref fN])), (fA, .inl (cI, 576, (.inl fa))), (fQ, .inl (cI, 576, (.inl gq))), (fR, .inl (cI, 576, (.inl fr))), (fL, .inl (cI, 576, (.inl gl))), (fT, .inl (cI, 3, (.inl (upd ft 0 (nI u0)))))] H := hP
                  have hD : va_D A [(xSta, .inr (7, [.int (-1), .ref fL, .ref fS, .ref fP, .ref fT, .ref fA, .ref fQ, .ref fR, .int w9, .ref fN])), (fA, .inl (cI, 576, (.inl fa))), (fQ, .inl (cI, 576, (.inl gq))), (fR, .inl (cI, 576, (.inl fr))), (fL, .inl (cI, 576, (.inl gl))), (fT, .inl (cI, 3, (.inl (upd ft 0 (nI u0)))))] := hD
                  refine lv_aload_n hx hb dX7_keep_116 rfl (lv_at hl 0 rfl) ?_
                  refine va_get (D := (dC, dI)) (ci := 7) (v := .ref fT) (C := RX7) (T := TX7) (N := 10) hx hb hts hiX7 hown hK hP 0 rfl rfl 4 (by decide) (hts (.fieldLink RX7 25 "ScissorsTable$Stairs" "start" "[I") (by decide +kernel)) (fun _ h9 => h9) rfl dX7_keep_117 ?_
                  refine lv_iconst (v := 1) hx hb dX7_keep_120 (by decide) ?_
                  refine lv_iload_n hx hb dX7_keep_121 rfl (lv_at hl 2 rfl) ?_
                  refine va_iast hx hb hK hP hD hS 5 1 rfl rfl (by show ¬ (_ ∨ _); decide) dX7_keep_122 (fun H locs hP hD hS => ?_)
                  rw [show (1 : Int32).toNatClampNeg = 1 from rfl] at hP hD
                  have hP : va_P (dC, dI) vwCl [(xSta, .inr (7, [.int (-1), .ref fL, .ref fS, .ref fP, .ref fT, .ref fA, .ref fQ, .ref fR, .int w9, .ref fN])), (fA, .inl (cI, 576, (.inl fa))), (fQ, .inl (cI, 576, (.inl gq))), (fR, .inl (cI, 576, (.inl fr))), (fL, .inl (cI, 576, (.inl gl))), (fT, .inl (cI, 3, (.inl (upd (upd ft 0 (nI u0)) 1 (nI u1)))))] H := hP
                  have hD : va_D A [(xSta, .inr (7, [.int (-1), .ref fL, .ref fS, .ref fP, .ref fT, .ref fA, .ref fQ, .ref fR, .int w9, .ref fN])), (fA, .inl (cI, 576, (.inl fa))), (fQ, .inl (cI, 576, (.inl gq))), (fR, .inl (cI, 576, (.inl fr))), (fL, .inl (cI, 576, (.inl gl))), (fT, .inl (cI, 3, (.inl (upd (upd ft 0 (nI u0)) 1 (nI u1)))))] := hD
                  refine lv_aload_n hx hb dX7_keep_123 rfl (lv_at hl 0 rfl) ?_
                  refine va_get (D := (dC, dI)) (ci := 7) (v := .ref fT) (C := RX7) (T := TX7) (N := 10) hx hb hts hiX7 hown hK hP 0 rfl rfl 4 (by decide) (hts (.fieldLink RX7 25 "ScissorsTable$Stairs" "start" "[I") (by decide +kernel)) (fun _ h9 => h9) rfl dX7_keep_124 ?_
                  refine lv_iconst (v := 2) hx hb dX7_keep_127 (by decide) ?_
                  refine lv_iload_n hx hb dX7_keep_128 rfl (lv_at hl 3 rfl) ?_
                  refine va_iast hx hb hK hP hD hS 5 1 rfl rfl (by show ¬ (_ ∨ _); decide) dX7_keep_129 (fun H locs hP hD hS => ?_)
                  rw [show (2 : Int32).toNatClampNeg = 2 from rfl] at hP hD
                  have hP : va_P (dC, dI) vwCl [(xSta, .inr (7, [.int (-1), .ref fL, .ref fS, .ref fP, .ref fT, .ref fA, .ref fQ, .ref fR, .int w9, .ref fN])), (fA, .inl (cI, 576, (.inl fa))), (fQ, .inl (cI, 576, (.inl gq))), (fR, .inl (cI, 576, (.inl fr))), (fL, .inl (cI, 576, (.inl gl))), (fT, .inl (cI, 3, (.inl (upd (upd (upd ft 0 (nI u0)) 1 (nI u1)) 2 w2))))] H := hP
                  have hD : va_D A [(xSta, .inr (7, [.int (-1), .ref fL, .ref fS, .ref fP, .ref fT, .ref fA, .ref fQ, .ref fR, .int w9, .ref fN])), (fA, .inl (cI, 576, (.inl fa))), (fQ, .inl (cI, 576, (.inl gq))), (fR, .inl (cI, 576, (.inl fr))), (fL, .inl (cI, 576, (.inl gl))), (fT, .inl (cI, 3, (.inl (upd (upd (upd ft 0 (nI u0)) 1 (nI u1)) 2 w2))))] := hD
                  refine lv_aload_n hx hb dX7_keep_130 rfl (lv_at hl 0 rfl) ?_
                  refine lv_iload hx hb dX7_keep_131 (lv_at hl 4 rfl) ?_
                  refine va_put (D := (dC, dI)) (ci := 7) (v := .int (nI n)) (ty := .int) (C := RX7) (T := TX7) (N := 10) hx hb hts hiX7 tyX7 tyX7_ok nmX7 hown hK hP hD hS 0 rfl rfl 0 (by decide) (hts (.fieldLink RX7 11 "ScissorsTable$Stairs" "steps" "I") (by decide +kernel)) (fun _ h9 => h9) rfl (by decide +kernel) rfl rfl (Nat.le_of_ble_eq_true rfl) dX7_keep_133 (fun H locs hP hD hS => ?_)
                  have hP : va_P (dC, dI) vwCl [(xSta, .inr (7, [.int (nI n), .ref fL, .ref fS, .ref fP, .ref fT, .ref fA, .ref fQ, .ref fR, .int w9, .ref fN])), (fA, .inl (cI, 576, (.inl fa))), (fQ, .inl (cI, 576, (.inl gq))), (fR, .inl (cI, 576, (.inl fr))), (fL, .inl (cI, 576, (.inl gl))), (fT, .inl (cI, 3, (.inl (upd (upd (upd ft 0 (nI u0)) 1 (nI u1)) 2 w2))))] H := hP
                  have hD : va_D A [(xSta, .inr (7, [.int (nI n), .ref fL, .ref fS, .ref fP, .ref fT, .ref fA, .ref fQ, .ref fR, .int w9, .ref fN])), (fA, .inl (cI, 576, (.inl fa))), (fQ, .inl (cI, 576, (.inl gq))), (fR, .inl (cI, 576, (.inl fr))), (fL, .inl (cI, 576, (.inl gl))), (fT, .inl (cI, 3, (.inl (upd (upd (upd ft 0 (nI u0)) 1 (nI u1)) 2 w2))))] := hD
                  have hP9 := hP.sub (ws' := [(xSta, .inr (7, [.int (nI n), .ref fL, .ref fS, .ref fP, .ref fT, .ref fA, .ref fQ, .ref fR, .int w9, .ref fN]))]) [0] rfl
                  have hD9 := hD.sub (ws' := [(xSta, .inr (7, [.int (nI n), .ref fL, .ref fS, .ref fP, .ref fT, .ref fA, .ref fQ, .ref fR, .int w9, .ref fN]))]) [0] (by decide) rfl
                  refine W.widen (k := 0) (n := 0) (Nat.le_of_ble_eq_true rfl) (Nat.le_of_ble_eq_true rfl) ?_
                  exact W.vret hx hb hr (fun t ht hW => ⟨⟨(), rfl, trivial, by rw [ht]; exact hP9, va_K.moved hW.alike hK, hD9⟩, hS.F ht⟩) hS.2.2 dX7_keep_136
                · have c_6 : ¬ n ≤ j := fun q9 => c_6 ((nI_leI (a := n) (b := j) (by omega) (by omega)).mpr q9)
                  refine lv_aload_n hx hb dX7_keep_84 rfl (lv_at hl 0 rfl) ?_
                  refine va_get (D := (dC, dI)) (ci := 7) (v := .ref fL) (C := RX7) (T := TX7) (N := 10) hx hb hts hiX7 hown hK hP 0 rfl rfl 1 (by decide) (hts (.fieldLink RX7 15 "ScissorsTable$Stairs" "labels" "[I") (by decide +kernel)) (fun _ h9 => h9) rfl dX7_keep_85 ?_
                  refine lv_iload hx hb dX7_keep_88 (lv_at hl 5 rfl) ?_
                  refine lv_aload_n hx hb dX7_keep_90 rfl (lv_at hl 0 rfl) ?_
                  refine va_get (D := (dC, dI)) (ci := 7) (v := .ref fQ) (C := RX7) (T := TX7) (N := 10) hx hb hts hiX7 hown hK hP 0 rfl rfl 6 (by decide) (hts (.fieldLink RX7 31 "ScissorsTable$Stairs" "queue" "[I") (by decide +kernel)) (fun _ h9 => h9) rfl dX7_keep_91 ?_
                  refine lv_iload hx hb dX7_keep_94 (lv_at hl 4 rfl) ?_
                  refine lv_iconst (v := 1) hx hb dX7_keep_96 (by decide) ?_
                  refine lv_isub hx hb dX7_keep_97 ?_
                  refine lv_topi (fun x_7 ex_7 => ?_)
                  obtain rfl : x_7 = nI (n - 1) := ex_7.trans (pk_sub (a := n) (b := 1) (by omega))
                  refine lv_iload hx hb dX7_keep_98 (lv_at hl 5 rfl) ?_
                  refine lv_isub hx hb dX7_keep_100 ?_
                  refine lv_topi (fun x_8 ex_8 => ?_)
                  obtain rfl : x_8 = nI ((n - 1) - j) := ex_8.trans (pk_sub (a := n - 1) (b := j) (by omega))
                  refine va_iald hx hb hK hP 2 1 rfl rfl (vp_in_nI (by omega) (by decide)) dX7_keep_101 ?_
                  refine lv_topi (fun x_9 ex_9 => ?_)
                  rw [nI_clamp (show (n - 1) - j < 2 ^ 31 by omega)] at ex_9
                  refine va_iast hx hb hK hP hD hS 4 1 rfl rfl (vp_in_nI (by omega) (by decide)) dX7_keep_102 (fun H locs hP hD hS => ?_)
                  rw [nI_clamp (show j < 2 ^ 31 by omega)] at hP hD
                  have hP : va_P (dC, dI) vwCl [(xSta, .inr (7, [.int (-1), .ref fL, .ref fS, .ref fP, .ref fT, .ref fA, .ref fQ, .ref fR, .int w9, .ref fN])), (fA, .inl (cI, 576, (.inl fa))), (fQ, .inl (cI, 576, (.inl gq))), (fR, .inl (cI, 576, (.inl fr))), (fL, .inl (cI, 576, (.inl (upd gl j x_9)))), (fT, .inl (cI, 3, (.inl ft)))] H := hP
                  have hD : va_D A [(xSta, .inr (7, [.int (-1), .ref fL, .ref fS, .ref fP, .ref fT, .ref fA, .ref fQ, .ref fR, .int w9, .ref fN])), (fA, .inl (cI, 576, (.inl fa))), (fQ, .inl (cI, 576, (.inl gq))), (fR, .inl (cI, 576, (.inl fr))), (fL, .inl (cI, 576, (.inl (upd gl j x_9)))), (fT, .inl (cI, 3, (.inl ft)))] := hD
                  obtain ⟨x_10, ex_10⟩ : ∃ y : Int32, y = (nI j) + 1 := ⟨_, rfl⟩
                  refine lv_iinc (v := x_10) (lv' := [(9, .int x_10), (0, .ref xSta), (1, .int (nI u0)), (2, .int (nI u1)), (3, .int w2), (7, .int (nI n))]) hx hb dX7_keep_103 hl (k := 5) rfl (by rw [ex_10]; rfl) (by decide) rfl (fun ls hl => ?_)
                  obtain rfl : x_10 = nI (j + 1) := ex_10.trans (nI_1 j)
                  have hl : lv_has ls 10 [(9, .int (nI (j + 1))), (0, .ref xSta), (1, .int (nI u0)), (2, .int (nI u1)), (3, .int w2), (7, .int (nI n))] := hl
                  refine lv_goto (tgt := 77) hx hb dX7_keep_106 (by decide) ?_
                  exact out2 _ _ _ (ih2 (j + 1) _ (by omega) (by omega) _ _ (hP.sub [0, 1, 2, 3, 4, 5] rfl) (hD.sub [0, 1, 2, 3, 4, 5] (by decide) rfl) hS ls (lv_sub hl [1, 2, 3, 4, 5, 0] rfl))
            exact loop2 (n + 1) 0 _ (by omega) (by omega) _ _ (hP.sub [0, 1, 2, 3, 4, 5] rfl) (hD.sub [0, 1, 2, 3, 4, 5] (by decide) rfl) hS ls (lv_sub hl [1, 2, 3, 4, 6, 0] rfl)
          · have c_5 : ¬ (g k) = (g n) := fun q9 => c_5 ((nI_eq (a := g k) (b := g n) (by omega) (by omega)).mpr q9)
            have hkn : k < n := by
              rcases (show k < n ∨ k = n by omega) with h9 | rfl
              · exact h9
              · exact absurd rfl c_5
            refine lv_aload_n hx hb dX7_keep_42 rfl (lv_at hl 0 rfl) ?_
            refine va_get (D := (dC, dI)) (ci := 7) (v := .ref fQ) (C := RX7) (T := TX7) (N := 10) hx hb hts hiX7 hown hK hP 0 rfl rfl 6 (by decide) (hts (.fieldLink RX7 31 "ScissorsTable$Stairs" "queue" "[I") (by decide +kernel)) (fun _ h9 => h9) rfl dX7_keep_43 ?_
            refine lv_iload hx hb dX7_keep_46 (lv_at hl 7 rfl) ?_
            refine lv_aload_n hx hb dX7_keep_48 rfl (lv_at hl 0 rfl) ?_
            refine va_get (D := (dC, dI)) (ci := 7) (v := .ref fR) (C := RX7) (T := TX7) (N := 10) hx hb hts hiX7 hown hK hP 0 rfl rfl 7 (by decide) (hts (.fieldLink RX7 34 "ScissorsTable$Stairs" "reached" "[I") (by decide +kernel)) (fun _ h9 => h9) rfl dX7_keep_49 ?_
            refine lv_iload hx hb dX7_keep_52 (lv_at hl 6 rfl) ?_
            refine va_iald hx hb hK hP 3 1 rfl rfl (vp_in_nI (by omega) (by decide)) dX7_keep_54 ?_
            refine lv_topi (fun x_11 ex_11 => ?_)
            rw [nI_clamp (show g k < 2 ^ 31 by omega)] at ex_11
            refine va_iast hx hb hK hP hD hS 2 1 rfl rfl (vp_in_nI (by omega) (by decide)) dX7_keep_55 (fun H locs hP hD hS => ?_)
            rw [nI_clamp (show k < 2 ^ 31 by omega)] at hP hD
            have hP : va_P (dC, dI) vwCl [(xSta, .inr (7, [.int (-1), .ref fL, .ref fS, .ref fP, .ref fT, .ref fA, .ref fQ, .ref fR, .int w9, .ref fN])), (fA, .inl (cI, 576, (.inl fa))), (fQ, .inl (cI, 576, (.inl (upd gq k x_11)))), (fR, .inl (cI, 576, (.inl fr))), (fL, .inl (cI, 576, (.inl fl))), (fT, .inl (cI, 3, (.inl ft)))] H := hP
            have hD : va_D A [(xSta, .inr (7, [.int (-1), .ref fL, .ref fS, .ref fP, .ref fT, .ref fA, .ref fQ, .ref fR, .int w9, .ref fN])), (fA, .inl (cI, 576, (.inl fa))), (fQ, .inl (cI, 576, (.inl (upd gq k x_11)))), (fR, .inl (cI, 576, (.inl fr))), (fL, .inl (cI, 576, (.inl fl))), (fT, .inl (cI, 3, (.inl ft)))] := hD
            obtain ⟨x_12, ex_12⟩ : ∃ y : Int32, y = (nI k) + 1 := ⟨_, rfl⟩
            refine lv_iinc (v := x_12) (lv' := [(7, .int x_12), (0, .ref xSta), (1, .int (nI u0)), (2, .int (nI u1)), (3, .int w2), (6, .int (nI (g n))), (8, .int (nI (g k))), (9, .int (nI k))]) hx hb dX7_keep_56 hl (k := 5) rfl (by rw [ex_12]; rfl) (by decide) rfl (fun ls hl => ?_)
            obtain rfl : x_12 = nI (k + 1) := ex_12.trans (nI_1 k)
            have hl : lv_has ls 10 [(7, .int (nI (k + 1))), (0, .ref xSta), (1, .int (nI u0)), (2, .int (nI u1)), (3, .int w2), (6, .int (nI (g n))), (8, .int (nI (g k))), (9, .int (nI k))] := hl
            refine lv_aload_n hx hb dX7_keep_59 rfl (lv_at hl 1 rfl) ?_
            refine va_get (D := (dC, dI)) (ci := 7) (v := .ref fA) (C := RX7) (T := TX7) (N := 10) hx hb hts hiX7 hown hK hP 0 rfl rfl 5 (by decide) (hts (.fieldLink RX7 28 "ScissorsTable$Stairs" "ahead" "[I") (by decide +kernel)) (fun _ h9 => h9) rfl dX7_keep_60 ?_
            refine lv_iload hx hb dX7_keep_63 (lv_at hl 6 rfl) ?_
            refine va_iald hx hb hK hP 1 1 rfl rfl (vp_in_nI (by omega) (by decide)) dX7_keep_65 ?_
            refine lv_topi (fun x_13 ex_13 => ?_)
            rw [nI_clamp (show g k < 2 ^ 31 by omega)] at ex_13
            obtain rfl : x_13 = nI (g (k + 1)) := ex_13.trans ((hg k hkn).2.2)
            refine lv_istore (lv' := [(8, .int (nI (g (k + 1)))), (7, .int (nI (k + 1))), (0, .ref xSta), (1, .int (nI u0)), (2, .int (nI u1)), (3, .int w2), (6, .int (nI (g n))), (9, .int (nI k))]) hx hb dX7_keep_66 hl (by decide) rfl (fun ls hl => ?_)
            obtain ⟨x_14, ex_14⟩ : ∃ y : Int32, y = (nI k) + 1 := ⟨_, rfl⟩
            refine lv_iinc (v := x_14) (lv' := [(9, .int x_14), (8, .int (nI (g (k + 1)))), (7, .int (nI (k + 1))), (0, .ref xSta), (1, .int (nI u0)), (2, .int (nI u1)), (3, .int w2), (6, .int (nI (g n)))]) hx hb dX7_keep_68 hl (k := 7) rfl (by rw [ex_14]; rfl) (by decide) rfl (fun ls hl => ?_)
            obtain rfl : x_14 = nI (k + 1) := ex_14.trans (nI_1 k)
            have hl : lv_has ls 10 [(9, .int (nI (k + 1))), (8, .int (nI (g (k + 1)))), (7, .int (nI (k + 1))), (0, .ref xSta), (1, .int (nI u0)), (2, .int (nI u1)), (3, .int w2), (6, .int (nI (g n)))] := hl
            refine lv_goto (tgt := 22) hx hb dX7_keep_71 (by decide) ?_
            exact out _ _ _ (ih (k + 1) _ (by omega) (by omega) _ _ (hP.sub [0, 1, 2, 3, 4, 5] rfl) (hD.sub [0, 1, 2, 3, 4, 5] (by decide) rfl) hS ls (lv_sub hl [3, 4, 5, 6, 7, 2, 1, 0] rfl))
  exact loop (n + 1) 0 _ (by omega) (by omega) _ _ (hP.sub [0, 1, 2, 3, 4, 5] rfl) (hD.sub [0, 1, 2, 3, 4, 5] (by decide) rfl) hS ls (lv_sub hl [4, 5, 6, 7, 3, 2, 1, 0] rfl)
