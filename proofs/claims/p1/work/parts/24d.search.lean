set_option maxRecDepth 20000 in
theorem ggX7_search_X7_boxOf : GoodIn wsX7_search wsX7_boxOf := goodIn_r _ [7] (by decide +kernel) (by decide +kernel)
set_option maxRecDepth 20000 in
theorem gX7_search_X7_boxOf : GoodIn wsX7_search (va_wsS RX7 45 yX7_boxOf wsX7_boxOf) := goodIn_app (goodIn_of _ (by decide +kernel)) ggX7_search_X7_boxOf
set_option maxRecDepth 20000 in
theorem ggX7_search_J7_fill_53178 : GoodIn wsX7_search wsJ7_fill_53178 := goodIn_r _ [11] (by decide +kernel) (by decide +kernel)
set_option maxRecDepth 20000 in
theorem gX7_search_J7_fill_53178 : GoodIn wsX7_search (va_wsS RX7 49 yJ7_fill_53178 wsJ7_fill_53178) := goodIn_app (goodIn_of _ (by decide +kernel)) ggX7_search_J7_fill_53178
set_option maxRecDepth 20000 in
theorem ggX7_search_X7_setSides : GoodIn wsX7_search wsX7_setSides := goodIn_r _ [15, 16, 26, 27, 28, 29, 30, 31, 32, 33, 34, 35] (by decide +kernel) (by decide +kernel)
set_option maxRecDepth 20000 in
theorem gX7_search_X7_setSides : GoodIn wsX7_search (wsV RX7 58 RX7 yX7_setSides wsX7_setSides) := goodIn_app (goodIn_of _ (by decide +kernel)) ggX7_search_X7_setSides
set_option maxRecDepth 20000 in
theorem ggX7_search_X7_reachBy : GoodIn wsX7_search wsX7_reachBy := goodIn_r _ [20, 16, 1, 3, 21, 2, 22, 23, 24, 6, 25, 4, 5, 7, 26, 27, 28, 29, 30, 31, 32, 33, 34, 35] (by decide +kernel) (by decide +kernel)
set_option maxRecDepth 20000 in
theorem gX7_search_X7_reachBy : GoodIn wsX7_search (wsV RX7 62 RX7 yX7_reachBy wsX7_reachBy) := goodIn_app (goodIn_of _ (by decide +kernel)) ggX7_search_X7_reachBy
theorem dX7_search_0 : decode cX7_search 0 = .ok (.iload 4, 2) := by decide +kernel
theorem dX7_search_2 : decode cX7_search 2 = .ok (.iload 5, 2) := by decide +kernel
theorem dX7_search_4 : decode cX7_search 4 = .ok (.invokestatic 45, 3) := by decide +kernel
theorem dX7_search_7 : decode cX7_search 7 = .ok (.istore 6, 2) := by decide +kernel
theorem dX7_search_9 : decode cX7_search 9 = .ok (.iload_n 1, 1) := by decide +kernel
theorem dX7_search_10 : decode cX7_search 10 = .ok (.iload_n 2, 1) := by decide +kernel
theorem dX7_search_11 : decode cX7_search 11 = .ok (.imul, 1) := by decide +kernel
theorem dX7_search_12 : decode cX7_search 12 = .ok (.iload_n 3, 1) := by decide +kernel
theorem dX7_search_13 : decode cX7_search 13 = .ok (.imul, 1) := by decide +kernel
theorem dX7_search_14 : decode cX7_search 14 = .ok (.istore 7, 2) := by decide +kernel
theorem dX7_search_16 : decode cX7_search 16 = .ok (.aload_n 0, 1) := by decide +kernel
theorem dX7_search_17 : decode cX7_search 17 = .ok (.getfield 28, 3) := by decide +kernel
theorem dX7_search_20 : decode cX7_search 20 = .ok (.iconst (-1), 1) := by decide +kernel
theorem dX7_search_21 : decode cX7_search 21 = .ok (.invokestatic 49, 3) := by decide +kernel
theorem dX7_search_24 : decode cX7_search 24 = .ok (.aload_n 0, 1) := by decide +kernel
theorem dX7_search_25 : decode cX7_search 25 = .ok (.getfield 28, 3) := by decide +kernel
theorem dX7_search_28 : decode cX7_search 28 = .ok (.iload_n 1, 1) := by decide +kernel
theorem dX7_search_29 : decode cX7_search 29 = .ok (.iload_n 2, 1) := by decide +kernel
theorem dX7_search_30 : decode cX7_search 30 = .ok (.invokestatic 45, 3) := by decide +kernel
theorem dX7_search_33 : decode cX7_search 33 = .ok (.iload_n 1, 1) := by decide +kernel
theorem dX7_search_34 : decode cX7_search 34 = .ok (.iload_n 2, 1) := by decide +kernel
theorem dX7_search_35 : decode cX7_search 35 = .ok (.invokestatic 45, 3) := by decide +kernel
theorem dX7_search_38 : decode cX7_search 38 = .ok (.iastore, 1) := by decide +kernel
theorem dX7_search_39 : decode cX7_search 39 = .ok (.aload_n 0, 1) := by decide +kernel
theorem dX7_search_40 : decode cX7_search 40 = .ok (.getfield 31, 3) := by decide +kernel
theorem dX7_search_43 : decode cX7_search 43 = .ok (.iconst 0, 1) := by decide +kernel
theorem dX7_search_44 : decode cX7_search 44 = .ok (.iload_n 1, 1) := by decide +kernel
theorem dX7_search_45 : decode cX7_search 45 = .ok (.iload_n 2, 1) := by decide +kernel
theorem dX7_search_46 : decode cX7_search 46 = .ok (.invokestatic 45, 3) := by decide +kernel
theorem dX7_search_49 : decode cX7_search 49 = .ok (.iastore, 1) := by decide +kernel
theorem dX7_search_50 : decode cX7_search 50 = .ok (.aload_n 0, 1) := by decide +kernel
theorem dX7_search_51 : decode cX7_search 51 = .ok (.iconst 1, 1) := by decide +kernel
theorem dX7_search_52 : decode cX7_search 52 = .ok (.putfield 55, 3) := by decide +kernel
theorem dX7_search_55 : decode cX7_search 55 = .ok (.iconst 0, 1) := by decide +kernel
theorem dX7_search_56 : decode cX7_search 56 = .ok (.istore 8, 2) := by decide +kernel
theorem dX7_search_58 : decode cX7_search 58 = .ok (.iload 8, 2) := by decide +kernel
theorem dX7_search_60 : decode cX7_search 60 = .ok (.aload_n 0, 1) := by decide +kernel
theorem dX7_search_61 : decode cX7_search 61 = .ok (.getfield 55, 3) := by decide +kernel
theorem dX7_search_64 : decode cX7_search 64 = .ok (.if_icmp .ge 76, 3) := by decide +kernel
theorem dX7_search_67 : decode cX7_search 67 = .ok (.iload 8, 2) := by decide +kernel
theorem dX7_search_69 : decode cX7_search 69 = .ok (.sipush 576, 3) := by decide +kernel
theorem dX7_search_72 : decode cX7_search 72 = .ok (.if_icmp .ge 68, 3) := by decide +kernel
theorem dX7_search_75 : decode cX7_search 75 = .ok (.aload_n 0, 1) := by decide +kernel
theorem dX7_search_76 : decode cX7_search 76 = .ok (.getfield 28, 3) := by decide +kernel
theorem dX7_search_79 : decode cX7_search 79 = .ok (.iload 6, 2) := by decide +kernel
theorem dX7_search_81 : decode cX7_search 81 = .ok (.iaload, 1) := by decide +kernel
theorem dX7_search_82 : decode cX7_search 82 = .ok (.iconst (-1), 1) := by decide +kernel
theorem dX7_search_83 : decode cX7_search 83 = .ok (.if_icmp .ne 57, 3) := by decide +kernel
theorem dX7_search_86 : decode cX7_search 86 = .ok (.aload_n 0, 1) := by decide +kernel
theorem dX7_search_87 : decode cX7_search 87 = .ok (.aload_n 0, 1) := by decide +kernel
theorem dX7_search_88 : decode cX7_search 88 = .ok (.getfield 31, 3) := by decide +kernel
theorem dX7_search_91 : decode cX7_search 91 = .ok (.iload 8, 2) := by decide +kernel
theorem dX7_search_93 : decode cX7_search 93 = .ok (.iaload, 1) := by decide +kernel
theorem dX7_search_94 : decode cX7_search 94 = .ok (.iload 7, 2) := by decide +kernel
theorem dX7_search_96 : decode cX7_search 96 = .ok (.invokevirtual 58, 3) := by decide +kernel
theorem dX7_search_99 : decode cX7_search 99 = .ok (.iconst 0, 1) := by decide +kernel
theorem dX7_search_100 : decode cX7_search 100 = .ok (.istore 9, 2) := by decide +kernel
theorem dX7_search_102 : decode cX7_search 102 = .ok (.iload 9, 2) := by decide +kernel
theorem dX7_search_104 : decode cX7_search 104 = .ok (.bipush 9, 2) := by decide +kernel
theorem dX7_search_106 : decode cX7_search 106 = .ok (.if_icmp .ge 28, 3) := by decide +kernel
theorem dX7_search_109 : decode cX7_search 109 = .ok (.aload_n 0, 1) := by decide +kernel
theorem dX7_search_110 : decode cX7_search 110 = .ok (.aload_n 0, 1) := by decide +kernel
theorem dX7_search_111 : decode cX7_search 111 = .ok (.getfield 31, 3) := by decide +kernel
theorem dX7_search_114 : decode cX7_search 114 = .ok (.iload 8, 2) := by decide +kernel
theorem dX7_search_116 : decode cX7_search 116 = .ok (.iaload, 1) := by decide +kernel
theorem dX7_search_117 : decode cX7_search 117 = .ok (.iload 9, 2) := by decide +kernel
theorem dX7_search_119 : decode cX7_search 119 = .ok (.iconst 3, 1) := by decide +kernel
theorem dX7_search_120 : decode cX7_search 120 = .ok (.idiv, 1) := by decide +kernel
theorem dX7_search_121 : decode cX7_search 121 = .ok (.iload 9, 2) := by decide +kernel
theorem dX7_search_123 : decode cX7_search 123 = .ok (.iconst 3, 1) := by decide +kernel
theorem dX7_search_124 : decode cX7_search 124 = .ok (.irem, 1) := by decide +kernel
theorem dX7_search_125 : decode cX7_search 125 = .ok (.invokevirtual 62, 3) := by decide +kernel
theorem dX7_search_128 : decode cX7_search 128 = .ok (.iinc 9 1, 3) := by decide +kernel
theorem dX7_search_131 : decode cX7_search 131 = .ok (.goto (-29), 3) := by decide +kernel
theorem dX7_search_134 : decode cX7_search 134 = .ok (.iinc 8 1, 3) := by decide +kernel
theorem dX7_search_137 : decode cX7_search 137 = .ok (.goto (-79), 3) := by decide +kernel
theorem dX7_search_140 : decode cX7_search 140 = .ok (.aload_n 0, 1) := by decide +kernel
theorem dX7_search_141 : decode cX7_search 141 = .ok (.getfield 28, 3) := by decide +kernel
theorem dX7_search_144 : decode cX7_search 144 = .ok (.iload 6, 2) := by decide +kernel
theorem dX7_search_146 : decode cX7_search 146 = .ok (.iaload, 1) := by decide +kernel
theorem dX7_search_147 : decode cX7_search 147 = .ok (.iconst (-1), 1) := by decide +kernel
theorem dX7_search_148 : decode cX7_search 148 = .ok (.if_icmp .eq 7, 3) := by decide +kernel
theorem dX7_search_151 : decode cX7_search 151 = .ok (.iconst 1, 1) := by decide +kernel
theorem dX7_search_152 : decode cX7_search 152 = .ok (.goto 4, 3) := by decide +kernel
theorem dX7_search_155 : decode cX7_search 155 = .ok (.iconst 0, 1) := by decide +kernel
theorem dX7_search_156 : decode cX7_search 156 = .ok (.ireturn, 1) := by decide +kernel
set_option maxHeartbeats 4000000 in
set_option maxRecDepth 100000 in
theorem c_X7_search (l : Launch) (dC : Nat → ClassId) (dI : Nat → Nat → Nat) (cB cI cJ : ClassId) (sz : Nat) (xSta fL fS fP fT fA fQ fR fN : Nat) (w9 : Int32) (fs fa fq fr : Nat → Int32) (V u0 u1 u2 v0 v1 v2 sb gb : Nat) (hu : (1 ≤ u0 ∧ u0 ≤ 24) ∧ (1 ≤ u1 ∧ u1 ≤ 24) ∧ (1 ≤ u2 ∧ u2 ≤ 24)) (hv : (1 ≤ v0 ∧ v0 ≤ 24) ∧ (1 ≤ v1 ∧ v1 ≤ 24) ∧ (1 ≤ v2 ∧ v2 ≤ 24)) (hV : u0 * u1 * u2 = V) (hW : v0 * v1 * v2 = V) (hV2 : V ≤ 1728) (hsb : sb = bx_mk u0 u1 u2) (hgb : gb = bx_mk v0 v1 v2) (hfin : (q_at sb 97).length ≤ 96) : Met l yX7_search wsX7_search ({ frames := 3, cells := 0, slots := 0, locals := 75 }) (va_Pc [.ref xSta, .int (nI u0), .int (nI u1), .int (nI u2), .int (nI v0), .int (nI v1)] (fun U => U.heap.size = sz ∧ va_P (dC, dI) vwCl [(xSta, .inr (7, [.int (-1), .ref fL, .ref fS, .ref fP, .ref fT, .ref fA, .ref fQ, .ref fR, .int w9, .ref fN])), (fS, .inl (cI, 3, (.inl fs))), (fA, .inl (cI, 576, (.inl fa))), (fQ, .inl (cI, 576, (.inl fq))), (fR, .inl (cI, 576, (.inl fr)))] U.heap ∧ va_K (dC, dI) vwCl [(cB, .byte), (cI, .int), (cJ, .long)] U ∧ va_D (fun _ => True) [(xSta, .inr (7, [.int (-1), .ref fL, .ref fS, .ref fP, .ref fT, .ref fA, .ref fQ, .ref fR, .int w9, .ref fN])), (fS, .inl (cI, 3, (.inl fs))), (fA, .inl (cI, 576, (.inl fa))), (fQ, .inl (cI, 576, (.inl fq))), (fR, .inl (cI, 576, (.inl fr)))])) (va_Qi (fun (r : Int32) (_ : Unit) => (r = 0 ∧ r_ans sb gb = -1) ∨ (r = 1 ∧ ¬ r_ans sb gb = -1)) (fun _ t => ∃ w8 : Int32, ∃ fx : Nat → Int32, ∃ fz : Nat → Int32, ∃ fy : Nat → Int32, ∃ fw : Nat → Int32, (r_ans sb gb = -1 ∨ ∃ (n : Nat) (g : Nat → Nat), r_ans sb gb = nI n ∧ n ≤ 95 ∧ g 0 = bx_cd gb ∧ g n = bx_cd sb ∧ ∀ i, i < n → g i < 576 ∧ g i ≠ g n ∧ fz (g i) = nI (g (i + 1))) ∧ va_P (dC, dI) vwCl [(xSta, .inr (7, [.int (-1), .ref fL, .ref fS, .ref fP, .ref fT, .ref fA, .ref fQ, .ref fR, .int w8, .ref fN])), (fS, .inl (cI, 3, (.inl fx))), (fA, .inl (cI, 576, (.inl fz))), (fQ, .inl (cI, 576, (.inl fy))), (fR, .inl (cI, 576, (.inl fw)))] t.heap ∧ va_K (dC, dI) vwCl [(cB, .byte), (cI, .int), (cJ, .long)] t ∧ va_D (va_A [(xSta, .inr (7, [.int (-1), .ref fL, .ref fS, .ref fP, .ref fT, .ref fA, .ref fQ, .ref fR, .int w9, .ref fN])), (fS, .inl (cI, 3, (.inl fs))), (fA, .inl (cI, 576, (.inl fa))), (fQ, .inl (cI, 576, (.inl fq))), (fR, .inl (cI, 576, (.inl fr)))] sz) [(xSta, .inr (7, [.int (-1), .ref fL, .ref fS, .ref fP, .ref fT, .ref fA, .ref fQ, .ref fR, .int w8, .ref fN])), (fS, .inl (cI, 3, (.inl fx))), (fA, .inl (cI, 576, (.inl fz))), (fQ, .inl (cI, 576, (.inl fy))), (fR, .inl (cI, 576, (.inl fw)))]) (va_A [(xSta, .inr (7, [.int (-1), .ref fL, .ref fS, .ref fP, .ref fT, .ref fA, .ref fQ, .ref fR, .int w9, .ref fN])), (fS, .inl (cI, 3, (.inl fs))), (fA, .inl (cI, 576, (.inl fa))), (fQ, .inl (cI, 576, (.inl fq))), (fR, .inl (cI, 576, (.inl fr)))] sz)) 0 0 (va_A [(xSta, .inr (7, [.int (-1), .ref fL, .ref fS, .ref fP, .ref fT, .ref fA, .ref fQ, .ref fR, .int w9, .ref fN])), (fS, .inl (cI, 3, (.inl fs))), (fA, .inl (cI, 576, (.inl fa))), (fQ, .inl (cI, 576, (.inl fq))), (fR, .inl (cI, 576, (.inl fr)))] sz) := by
  refine Met.ofW (cc := cX7_search) (maxL := 10) (ret := (some .boolean)) (by decide) rfl ?_
  intro p e s m args below meth c s₁ B hml hv
  obtain ⟨rfl, hsz, hP, hK, hD0⟩ := hv
  have hx := B.exec
  have hb := B.bytes
  have hr := B.returns
  have hts := atoms_spec (ws := wsX7_search) B.pre
  have hown : s.vm.findClass RX7 = some m.cls := findClass_of_methodNamed B.named
  have hlocks := B.notSynchronized
  have hiX7 : ∀ w ∈ u_ws RX7 TX7 10, w ∈ wsX7_search := by decide +kernel
  subst hsz
  have hD := hD0.self (sz := s.heap.size)
  generalize hAe : va_A [(xSta, .inr (7, [.int (-1), .ref fL, .ref fS, .ref fP, .ref fT, .ref fA, .ref fQ, .ref fR, .int w9, .ref fN])), (fS, .inl (cI, 3, (.inl fs))), (fA, .inl (cI, 576, (.inl fa))), (fQ, .inl (cI, 576, (.inl fq))), (fR, .inl (cI, 576, (.inl fr)))] s.heap.size = A at hD ⊢
  have hA : ∀ q : Nat, s.heap.size ≤ q → A q := fun q h => by rw [← hAe]; exact Or.inr h
  have hS : va_S A s.heap s.heap [] := va_S.rf
  have hP : va_P (dC, dI) vwCl [(xSta, .inr (7, [.int (-1), .ref fL, .ref fS, .ref fP, .ref fT, .ref fA, .ref fQ, .ref fR, .int w9, .ref fN])), (fS, .inl (cI, 3, (.inl fs))), (fA, .inl (cI, 576, (.inl fa))), (fQ, .inl (cI, 576, (.inl fq))), (fR, .inl (cI, 576, (.inl fr)))] s.heap := hP
  have hl := lv_entry ([.ref xSta, .int (nI u0), .int (nI u1), .int (nI u2), .int (nI v0), .int (nI v1)]) (n := 10) (Nat.le_of_ble_eq_true rfl)
  rw [lg_entry_eq]
  generalize (lg_sl ([.ref xSta, .int (nI u0), .int (nI u1), .int (nI u2), .int (nI v0), .int (nI v1)]) ++ List.replicate (10 - (lg_sl ([.ref xSta, .int (nI u0), .int (nI u1), .int (nI u2), .int (nI v0), .int (nI v1)])).length) Slot.unset).toArray = ls at hl ⊢
  have hl : lv_has ls 10 [(0, .ref xSta), (1, .int (nI u0)), (2, .int (nI u1)), (3, .int (nI u2)), (4, .int (nI v0)), (5, .int (nI v1))] := hl
  have hsi : bx_in V sb := ⟨u0, u1, u2, hu.1, hu.2.1, hu.2.2, hV, hsb⟩
  have hgi : bx_in V gb := ⟨v0, v1, v2, hv.1, hv.2.1, hv.2.2, hW, hgb⟩
  have hsc : (u0 - 1) * 24 + (u1 - 1) = bx_cd sb := by rw [hsb, bx_cd_mk (by omega) (by omega)]
  have hgc : (v0 - 1) * 24 + (v1 - 1) = bx_cd gb := by rw [hgb, bx_cd_mk (by omega) (by omega)]
  have hsl := bx_cd_lt hsi
  have hgl := bx_cd_lt hgi
  refine lv_iload hx hb dX7_search_0 (lv_at hl 4 rfl) ?_
  refine lv_iload hx hb dX7_search_2 (lv_at hl 5 rfl) ?_
  have hPc := hP.sub (ws' := []) [] rfl
  have hDc := hD.sub (ws' := []) [] (by decide) rfl
  have hFc := va_free (wc := []) hD hS hA [] rfl
  refine va_calli (va_runS (As := [.int (nI v0), .int (nI v1)]) (rest := []) ⟨hx, hb, hml, hown, hts⟩ (c_X7_boxOf l dC dI cB cI cJ s.heap.size v0 v1 (by omega) (by omega)) (va_cwS 2 hts gX7_search_X7_boxOf rfl rfl rfl (by decide +kernel) ⟨Nat.le_of_ble_eq_true rfl, Nat.le_of_ble_eq_true rfl⟩) ⟨fun a U g mk q => by obtain ⟨q0, q1, qP, qK, qD⟩ := q; exact ⟨q0, q1, qP, va_K.moved (u := U) (U := U.calling g mk a) (Vm.Alike.refl U.vm) qK, qD⟩, fun U hU hW => ⟨rfl, by rw [hU], by rw [hU]; exact hPc, va_K.moved hW.alike hK, hDc.weaken (fun _ _ _ _ => trivial)⟩⟩ rfl rfl hl.1 rfl (lv_room (Nat.le_of_ble_eq_true rfl)) dX7_search_4 ⟨Nat.le_of_ble_eq_true rfl, Nat.le_of_ble_eq_true rfl⟩) hS (fun q _ h => hFc q h) hFc (fun r_1 u t H1 locs ht hvm hw hB hz1 hk1 hS => ?_)
  have hP1 : va_P (dC, dI) vwCl [] H1 := fun k q h => by simp at h
  have hD1 : va_D (va_A [] s.heap.size) [] := ⟨fun i j p q h => by simp at h, fun k q h => by simp at h⟩
  obtain ⟨hP, hD⟩ := va_join (wr := [(xSta, .inr (7, [.int (-1), .ref fL, .ref fS, .ref fP, .ref fT, .ref fA, .ref fQ, .ref fR, .int w9, .ref fN])), (fS, .inl (cI, 3, (.inl fs))), (fA, .inl (cI, 576, (.inl fa))), (fQ, .inl (cI, 576, (.inl fq))), (fR, .inl (cI, 576, (.inl fr)))]) (w1 := []) hP hD [] [0, 1, 2, 3, 4] rfl rfl (by decide) (by decide) hk1 hFc hP1 hD1
  generalize H1 = H at hP hS ⊢
  have hP : va_P (dC, dI) vwCl [(xSta, .inr (7, [.int (-1), .ref fL, .ref fS, .ref fP, .ref fT, .ref fA, .ref fQ, .ref fR, .int w9, .ref fN])), (fS, .inl (cI, 3, (.inl fs))), (fA, .inl (cI, 576, (.inl fa))), (fQ, .inl (cI, 576, (.inl fq))), (fR, .inl (cI, 576, (.inl fr)))] H := hP
  have hD : va_D A [(xSta, .inr (7, [.int (-1), .ref fL, .ref fS, .ref fP, .ref fT, .ref fA, .ref fQ, .ref fR, .int w9, .ref fN])), (fS, .inl (cI, 3, (.inl fs))), (fA, .inl (cI, 576, (.inl fa))), (fQ, .inl (cI, 576, (.inl fq))), (fR, .inl (cI, 576, (.inl fr)))] := hD
  obtain rfl : r_1 = nI ((v0 - 1) * 24 + (v1 - 1)) := hw
  rw [hgc]
  refine lv_istore (lv' := [(6, .int (nI (bx_cd gb))), (0, .ref xSta), (1, .int (nI u0)), (2, .int (nI u1)), (3, .int (nI u2)), (4, .int (nI v0)), (5, .int (nI v1))]) hx hb dX7_search_7 hl (by decide) rfl (fun ls hl => ?_)
  refine lv_iload_n hx hb dX7_search_9 rfl (lv_at hl 2 rfl) ?_
  refine lv_iload_n hx hb dX7_search_10 rfl (lv_at hl 3 rfl) ?_
  refine lv_imul hx hb dX7_search_11 ?_
  refine lv_topi (fun x_2 ex_2 => ?_)
  obtain rfl : x_2 = nI (u0 * u1) := ex_2.trans (pk_mul u0 u1)
  refine lv_iload_n hx hb dX7_search_12 rfl (lv_at hl 4 rfl) ?_
  refine lv_imul hx hb dX7_search_13 ?_
  refine lv_topi (fun x_3 ex_3 => ?_)
  obtain rfl : x_3 = nI V := ex_3.trans ((pk_mul (u0 * u1) u2).trans (congrArg nI (show (u0 * u1) * u2 = V from hV)))
  refine lv_istore (lv' := [(7, .int (nI V)), (6, .int (nI (bx_cd gb))), (0, .ref xSta), (1, .int (nI u0)), (2, .int (nI u1)), (3, .int (nI u2)), (4, .int (nI v0)), (5, .int (nI v1))]) hx hb dX7_search_14 hl (by decide) rfl (fun ls hl => ?_)
  refine lv_aload_n hx hb dX7_search_16 rfl (lv_at hl 2 rfl) ?_
  refine va_get (D := (dC, dI)) (ci := 7) (v := .ref fA) (C := RX7) (T := TX7) (N := 10) hx hb hts hiX7 hown hK hP 0 rfl rfl 5 (by decide) (hts (.fieldLink RX7 28 "ScissorsTable$Stairs" "ahead" "[I") (by decide +kernel)) (fun _ h9 => h9) rfl dX7_search_17 ?_
  refine lv_iconst (v := (-1)) hx hb dX7_search_20 (by decide) ?_
  have hPc := hP.sub (ws' := [(fA, .inl (cI, 576, (.inl fa)))]) [2] rfl
  have hDc := hD.sub (ws' := [(fA, .inl (cI, 576, (.inl fa)))]) [2] (by decide) rfl
  have hFc := va_free (wc := [(fA, .inl (cI, 576, (.inl fa)))]) hD hS hA [2] rfl
  refine va_callv (va_runS (As := [.ref fA, .int (-1)]) (rest := []) ⟨hx, hb, hml, hown, hts⟩ (c_J7_fill_53178 l dC dI cB cI cJ H.size fA (-1) fa) (va_cwS 2 hts gX7_search_J7_fill_53178 rfl rfl rfl (by decide +kernel) ⟨Nat.le_of_ble_eq_true rfl, Nat.le_of_ble_eq_true rfl⟩) ⟨fun a U g mk q => by obtain ⟨q0, q1, qP, qK, qD⟩ := q; exact ⟨q0, q1, qP, va_K.moved (u := U) (U := U.calling g mk a) (Vm.Alike.refl U.vm) qK, qD⟩, fun U hU hW => ⟨rfl, by rw [hU], by rw [hU]; exact hPc, va_K.moved hW.alike hK, hDc.weaken (fun _ _ _ _ => trivial)⟩⟩ rfl rfl hl.1 rfl (lv_room (Nat.le_of_ble_eq_true rfl)) dX7_search_21 ⟨Nat.le_of_ble_eq_true rfl, Nat.le_of_ble_eq_true rfl⟩) hS (fun q _ h => hFc q h) hFc (fun u t H1 locs ht hvm hw hB hz1 hk1 hS => ?_)
  obtain ⟨g_4, h_5, hP1, hK1, hD1⟩ := hB
  rw [ht] at hP1
  obtain ⟨hP, hD⟩ := va_join (wr := [(xSta, .inr (7, [.int (-1), .ref fL, .ref fS, .ref fP, .ref fT, .ref fA, .ref fQ, .ref fR, .int w9, .ref fN])), (fS, .inl (cI, 3, (.inl fs))), (fQ, .inl (cI, 576, (.inl fq))), (fR, .inl (cI, 576, (.inl fr)))]) (w1 := [(fA, .inl (cI, 576, (.inl g_4)))]) hP hD [2] [0, 1, 3, 4] rfl rfl (by decide) (by decide) hk1 hFc hP1 hD1
  generalize H1 = H at hP hS ⊢
  have hP : va_P (dC, dI) vwCl [(xSta, .inr (7, [.int (-1), .ref fL, .ref fS, .ref fP, .ref fT, .ref fA, .ref fQ, .ref fR, .int w9, .ref fN])), (fS, .inl (cI, 3, (.inl fs))), (fQ, .inl (cI, 576, (.inl fq))), (fR, .inl (cI, 576, (.inl fr))), (fA, .inl (cI, 576, (.inl g_4)))] H := hP
  have hD : va_D A [(xSta, .inr (7, [.int (-1), .ref fL, .ref fS, .ref fP, .ref fT, .ref fA, .ref fQ, .ref fR, .int w9, .ref fN])), (fS, .inl (cI, 3, (.inl fs))), (fQ, .inl (cI, 576, (.inl fq))), (fR, .inl (cI, 576, (.inl fr))), (fA, .inl (cI, 576, (.inl g_4)))] := hD
  refine lv_aload_n hx hb dX7_search_24 rfl (lv_at hl 2 rfl) ?_
  refine va_get (D := (dC, dI)) (ci := 7) (v := .ref fA) (C := RX7) (T := TX7) (N := 10) hx hb hts hiX7 hown hK hP 0 rfl rfl 5 (by decide) (hts (.fieldLink RX7 28 "ScissorsTable$Stairs" "ahead" "[I") (by decide +kernel)) (fun _ h9 => h9) rfl dX7_search_25 ?_
  refine lv_iload_n hx hb dX7_search_28 rfl (lv_at hl 3 rfl) ?_
  refine lv_iload_n hx hb dX7_search_29 rfl (lv_at hl 4 rfl) ?_
  have hPc := hP.sub (ws' := []) [] rfl
  have hDc := hD.sub (ws' := []) [] (by decide) rfl
  have hFc := va_free (wc := []) hD hS hA [] rfl
  refine va_calli (va_runS (As := [.int (nI u0), .int (nI u1)]) (rest := [.ref fA]) ⟨hx, hb, hml, hown, hts⟩ (c_X7_boxOf l dC dI cB cI cJ H.size u0 u1 (by omega) (by omega)) (va_cwS 2 hts gX7_search_X7_boxOf rfl rfl rfl (by decide +kernel) ⟨Nat.le_of_ble_eq_true rfl, Nat.le_of_ble_eq_true rfl⟩) ⟨fun a U g mk q => by obtain ⟨q0, q1, qP, qK, qD⟩ := q; exact ⟨q0, q1, qP, va_K.moved (u := U) (U := U.calling g mk a) (Vm.Alike.refl U.vm) qK, qD⟩, fun U hU hW => ⟨rfl, by rw [hU], by rw [hU]; exact hPc, va_K.moved hW.alike hK, hDc.weaken (fun _ _ _ _ => trivial)⟩⟩ rfl rfl hl.1 rfl (lv_room (Nat.le_of_ble_eq_true rfl)) dX7_search_30 ⟨Nat.le_of_ble_eq_true rfl, Nat.le_of_ble_eq_true rfl⟩) hS (fun q _ h => hFc q h) hFc (fun r_6 u t H1 locs ht hvm hw hB hz1 hk1 hS => ?_)
  have hP1 : va_P (dC, dI) vwCl [] H1 := fun k q h => by simp at h
  have hD1 : va_D (va_A [] H.size) [] := ⟨fun i j p q h => by simp at h, fun k q h => by simp at h⟩
  obtain ⟨hP, hD⟩ := va_join (wr := [(xSta, .inr (7, [.int (-1), .ref fL, .ref fS, .ref fP, .ref fT, .ref fA, .ref fQ, .ref fR, .int w9, .ref fN])), (fS, .inl (cI, 3, (.inl fs))), (fQ, .inl (cI, 576, (.inl fq))), (fR, .inl (cI, 576, (.inl fr))), (fA, .inl (cI, 576, (.inl g_4)))]) (w1 := []) hP hD [] [0, 1, 2, 3, 4] rfl rfl (by decide) (by decide) hk1 hFc hP1 hD1
  generalize H1 = H at hP hS ⊢
  have hP : va_P (dC, dI) vwCl [(xSta, .inr (7, [.int (-1), .ref fL, .ref fS, .ref fP, .ref fT, .ref fA, .ref fQ, .ref fR, .int w9, .ref fN])), (fS, .inl (cI, 3, (.inl fs))), (fQ, .inl (cI, 576, (.inl fq))), (fR, .inl (cI, 576, (.inl fr))), (fA, .inl (cI, 576, (.inl g_4)))] H := hP
  have hD : va_D A [(xSta, .inr (7, [.int (-1), .ref fL, .ref fS, .ref fP, .ref fT, .ref fA, .ref fQ, .ref fR, .int w9, .ref fN])), (fS, .inl (cI, 3, (.inl fs))), (fQ, .inl (cI, 576, (.inl fq))), (fR, .inl (cI, 576, (.inl fr))), (fA, .inl (cI, 576, (.inl g_4)))] := hD
  obtain rfl : r_6 = nI ((u0 - 1) * 24 + (u1 - 1)) := hw
  rw [hsc]
  refine lv_iload_n hx hb dX7_search_33 rfl (lv_at hl 3 rfl) ?_
  refine lv_iload_n hx hb dX7_search_34 rfl (lv_at hl 4 rfl) ?_
  have hPc := hP.sub (ws' := []) [] rfl
  have hDc := hD.sub (ws' := []) [] (by decide) rfl
  have hFc := va_free (wc := []) hD hS hA [] rfl
  refine va_calli (va_runS (As := [.int (nI u0), .int (nI u1)]) (rest := [.int (nI (bx_cd sb)), .ref fA]) ⟨hx, hb, hml, hown, hts⟩ (c_X7_boxOf l dC dI cB cI cJ H.size u0 u1 (by omega) (by omega)) (va_cwS 2 hts gX7_search_X7_boxOf rfl rfl rfl (by decide +kernel) ⟨Nat.le_of_ble_eq_true rfl, Nat.le_of_ble_eq_true rfl⟩) ⟨fun a U g mk q => by obtain ⟨q0, q1, qP, qK, qD⟩ := q; exact ⟨q0, q1, qP, va_K.moved (u := U) (U := U.calling g mk a) (Vm.Alike.refl U.vm) qK, qD⟩, fun U hU hW => ⟨rfl, by rw [hU], by rw [hU]; exact hPc, va_K.moved hW.alike hK, hDc.weaken (fun _ _ _ _ => trivial)⟩⟩ rfl rfl hl.1 rfl (lv_room (Nat.le_of_ble_eq_true rfl)) dX7_search_35 ⟨Nat.le_of_ble_eq_true rfl, Nat.le_of_ble_eq_true rfl⟩) hS (fun q _ h => hFc q h) hFc (fun r_7 u t H1 locs ht hvm hw hB hz1 hk1 hS => ?_)
  have hP1 : va_P (dC, dI) vwCl [] H1 := fun k q h => by simp at h
  have hD1 : va_D (va_A [] H.size) [] := ⟨fun i j p q h => by simp at h, fun k q h => by simp at h⟩
  obtain ⟨hP, hD⟩ := va_join (wr := [(xSta, .inr (7, [.int (-1), .ref fL, .ref fS, .ref fP, .ref fT, .ref fA, .ref fQ, .ref fR, .int w9, .ref fN])), (fS, .inl (cI, 3, (.inl fs))), (fQ, .inl (cI, 576, (.inl fq))), (fR, .inl (cI, 576, (.inl fr))), (fA, .inl (cI, 576, (.inl g_4)))]) (w1 := []) hP hD [] [0, 1, 2, 3, 4] rfl rfl (by decide) (by decide) hk1 hFc hP1 hD1
  generalize H1 = H at hP hS ⊢
  have hP : va_P (dC, dI) vwCl [(xSta, .inr (7, [.int (-1), .ref fL, .ref fS, .ref fP, .ref fT, .ref fA, .ref fQ, .ref fR, .int w9, .ref fN])), (fS, .inl (cI, 3, (.inl fs))), (fQ, .inl (cI, 576, (.inl fq))), (fR, .inl (cI, 576, (.inl fr))), (fA, .inl (cI, 576, (.inl g_4)))] H := hP
  have hD : va_D A [(xSta, .inr (7, [.int (-1), .ref fL, .ref fS, .ref fP, .ref fT, .ref fA, .ref fQ, .ref fR, .int w9, .ref fN])), (fS, .inl (cI, 3, (.inl fs))), (fQ, .inl (cI, 576, (.inl fq))), (fR, .inl (cI, 576, (.inl fr))), (fA, .inl (cI, 576, (.inl g_4)))] := hD
  obtain rfl : r_7 = nI ((u0 - 1) * 24 + (u1 - 1)) := hw
  rw [hsc]
  refine va_iast hx hb hK hP hD hS 4 1 rfl rfl (vp_in_nI (by omega) (by decide)) dX7_search_38 (fun H locs hP hD hS => ?_)
  rw [nI_clamp (show bx_cd sb < 2 ^ 31 by omega)] at hP hD
  have hP : va_P (dC, dI) vwCl [(xSta, .inr (7, [.int (-1), .ref fL, .ref fS, .ref fP, .ref fT, .ref fA, .ref fQ, .ref fR, .int w9, .ref fN])), (fS, .inl (cI, 3, (.inl fs))), (fQ, .inl (cI, 576, (.inl fq))), (fR, .inl (cI, 576, (.inl fr))), (fA, .inl (cI, 576, (.inl (upd g_4 (bx_cd sb) (nI (bx_cd sb))))))] H := hP
  have hD : va_D A [(xSta, .inr (7, [.int (-1), .ref fL, .ref fS, .ref fP, .ref fT, .ref fA, .ref fQ, .ref fR, .int w9, .ref fN])), (fS, .inl (cI, 3, (.inl fs))), (fQ, .inl (cI, 576, (.inl fq))), (fR, .inl (cI, 576, (.inl fr))), (fA, .inl (cI, 576, (.inl (upd g_4 (bx_cd sb) (nI (bx_cd sb))))))] := hD
  refine lv_aload_n hx hb dX7_search_39 rfl (lv_at hl 2 rfl) ?_
  refine va_get (D := (dC, dI)) (ci := 7) (v := .ref fQ) (C := RX7) (T := TX7) (N := 10) hx hb hts hiX7 hown hK hP 0 rfl rfl 6 (by decide) (hts (.fieldLink RX7 31 "ScissorsTable$Stairs" "queue" "[I") (by decide +kernel)) (fun _ h9 => h9) rfl dX7_search_40 ?_
  refine lv_iconst (v := 0) hx hb dX7_search_43 (by decide) ?_
  refine lv_iload_n hx hb dX7_search_44 rfl (lv_at hl 3 rfl) ?_
  refine lv_iload_n hx hb dX7_search_45 rfl (lv_at hl 4 rfl) ?_
  have hPc := hP.sub (ws' := []) [] rfl
  have hDc := hD.sub (ws' := []) [] (by decide) rfl
  have hFc := va_free (wc := []) hD hS hA [] rfl
  refine va_calli (va_runS (As := [.int (nI u0), .int (nI u1)]) (rest := [.int 0, .ref fQ]) ⟨hx, hb, hml, hown, hts⟩ (c_X7_boxOf l dC dI cB cI cJ H.size u0 u1 (by omega) (by omega)) (va_cwS 2 hts gX7_search_X7_boxOf rfl rfl rfl (by decide +kernel) ⟨Nat.le_of_ble_eq_true rfl, Nat.le_of_ble_eq_true rfl⟩) ⟨fun a U g mk q => by obtain ⟨q0, q1, qP, qK, qD⟩ := q; exact ⟨q0, q1, qP, va_K.moved (u := U) (U := U.calling g mk a) (Vm.Alike.refl U.vm) qK, qD⟩, fun U hU hW => ⟨rfl, by rw [hU], by rw [hU]; exact hPc, va_K.moved hW.alike hK, hDc.weaken (fun _ _ _ _ => trivial)⟩⟩ rfl rfl hl.1 rfl (lv_room (Nat.le_of_ble_eq_true rfl)) dX7_search_46 ⟨Nat.le_of_ble_eq_true rfl, Nat.le_of_ble_eq_true rfl⟩) hS (fun q _ h => hFc q h) hFc (fun r_8 u t H1 locs ht hvm hw hB hz1 hk1 hS => ?_)
  have hP1 : va_P (dC, dI) vwCl [] H1 := fun k q h => by simp at h
  have hD1 : va_D (va_A [] H.size) [] := ⟨fun i j p q h => by simp at h, fun k q h => by simp at h⟩
  obtain ⟨hP, hD⟩ := va_join (wr := [(xSta, .inr (7, [.int (-1), .ref fL, .ref fS, .ref fP, .ref fT, .ref fA, .ref fQ, .ref fR, .int w9, .ref fN])), (fS, .inl (cI, 3, (.inl fs))), (fQ, .inl (cI, 576, (.inl fq))), (fR, .inl (cI, 576, (.inl fr))), (fA, .inl (cI, 576, (.inl (upd g_4 (bx_cd sb) (nI (bx_cd sb))))))]) (w1 := []) hP hD [] [0, 1, 2, 3, 4] rfl rfl (by decide) (by decide) hk1 hFc hP1 hD1
  generalize H1 = H at hP hS ⊢
  have hP : va_P (dC, dI) vwCl [(xSta, .inr (7, [.int (-1), .ref fL, .ref fS, .ref fP, .ref fT, .ref fA, .ref fQ, .ref fR, .int w9, .ref fN])), (fS, .inl (cI, 3, (.inl fs))), (fQ, .inl (cI, 576, (.inl fq))), (fR, .inl (cI, 576, (.inl fr))), (fA, .inl (cI, 576, (.inl (upd g_4 (bx_cd sb) (nI (bx_cd sb))))))] H := hP
  have hD : va_D A [(xSta, .inr (7, [.int (-1), .ref fL, .ref fS, .ref fP, .ref fT, .ref fA, .ref fQ, .ref fR, .int w9, .ref fN])), (fS, .inl (cI, 3, (.inl fs))), (fQ, .inl (cI, 576, (.inl fq))), (fR, .inl (cI, 576, (.inl fr))), (fA, .inl (cI, 576, (.inl (upd g_4 (bx_cd sb) (nI (bx_cd sb))))))] := hD
  obtain rfl : r_8 = nI ((u0 - 1) * 24 + (u1 - 1)) := hw
  rw [hsc]
  refine va_iast hx hb hK hP hD hS 2 1 rfl rfl (by show ¬ (_ ∨ _); decide) dX7_search_49 (fun H locs hP hD hS => ?_)
  rw [show (0 : Int32).toNatClampNeg = 0 from rfl] at hP hD
  have hP : va_P (dC, dI) vwCl [(xSta, .inr (7, [.int (-1), .ref fL, .ref fS, .ref fP, .ref fT, .ref fA, .ref fQ, .ref fR, .int w9, .ref fN])), (fS, .inl (cI, 3, (.inl fs))), (fQ, .inl (cI, 576, (.inl (upd fq 0 (nI (bx_cd sb)))))), (fR, .inl (cI, 576, (.inl fr))), (fA, .inl (cI, 576, (.inl (upd g_4 (bx_cd sb) (nI (bx_cd sb))))))] H := hP
  have hD : va_D A [(xSta, .inr (7, [.int (-1), .ref fL, .ref fS, .ref fP, .ref fT, .ref fA, .ref fQ, .ref fR, .int w9, .ref fN])), (fS, .inl (cI, 3, (.inl fs))), (fQ, .inl (cI, 576, (.inl (upd fq 0 (nI (bx_cd sb)))))), (fR, .inl (cI, 576, (.inl fr))), (fA, .inl (cI, 576, (.inl (upd g_4 (bx_cd sb) (nI (bx_cd sb))))))] := hD
  refine lv_aload_n hx hb dX7_search_50 rfl (lv_at hl 2 rfl) ?_
  refine lv_iconst (v := 1) hx hb dX7_search_51 (by decide) ?_
  refine va_put (D := (dC, dI)) (ci := 7) (v := .int 1) (ty := .int) (C := RX7) (T := TX7) (N := 10) hx hb hts hiX7 tyX7 tyX7_ok nmX7 hown hK hP hD hS 0 rfl rfl 8 (by decide) (hts (.fieldLink RX7 55 "ScissorsTable$Stairs" "queued" "I") (by decide +kernel)) (fun _ h9 => h9) rfl (by decide +kernel) rfl rfl (Nat.le_of_ble_eq_true rfl) dX7_search_52 (fun H locs hP hD hS => ?_)
  have hP : va_P (dC, dI) vwCl [(xSta, .inr (7, [.int (-1), .ref fL, .ref fS, .ref fP, .ref fT, .ref fA, .ref fQ, .ref fR, .int 1, .ref fN])), (fS, .inl (cI, 3, (.inl fs))), (fQ, .inl (cI, 576, (.inl (upd fq 0 (nI (bx_cd sb)))))), (fR, .inl (cI, 576, (.inl fr))), (fA, .inl (cI, 576, (.inl (upd g_4 (bx_cd sb) (nI (bx_cd sb))))))] H := hP
  have hD : va_D A [(xSta, .inr (7, [.int (-1), .ref fL, .ref fS, .ref fP, .ref fT, .ref fA, .ref fQ, .ref fR, .int 1, .ref fN])), (fS, .inl (cI, 3, (.inl fs))), (fQ, .inl (cI, 576, (.inl (upd fq 0 (nI (bx_cd sb)))))), (fR, .inl (cI, 576, (.inl fr))), (fA, .inl (cI, 576, (.inl (upd g_4 (bx_cd sb) (nI (bx_cd sb))))))] := hD
  refine lv_iconst (v := 0) hx hb dX7_search_55 (by decide) ?_
  refine lv_istore (lv' := [(8, .int 0), (7, .int (nI V)), (6, .int (nI (bx_cd gb))), (0, .ref xSta), (1, .int (nI u0)), (2, .int (nI u1)), (3, .int (nI u2)), (4, .int (nI v0)), (5, .int (nI v1))]) hx hb dX7_search_56 hl (by decide) rfl (fun ls hl => ?_)
  refine nk_G (fun G inn out => ?_)
  have loop : ∀ (f : Nat) (k : Nat) (gs : Nat → Int32) (ga : Nat → Int32) (gq : Nat → Int32) (gr : Nat → Int32) (h5 : k + f = 98) (h7 : k ≤ 97) (h6 : k ≤ (q_at sb k).length) (hR : RC (q_at sb k) ga gq) (H : Heap) (locs : List Loc) (_ : va_P (dC, dI) vwCl [(xSta, .inr (7, [.int (-1), .ref fL, .ref fS, .ref fP, .ref fT, .ref fA, .ref fQ, .ref fR, .int (nI (q_at sb k).length), .ref fN])), (fS, .inl (cI, 3, (.inl gs))), (fA, .inl (cI, 576, (.inl ga))), (fQ, .inl (cI, 576, (.inl gq))), (fR, .inl (cI, 576, (.inl gr)))] H) (_ : va_D A [(xSta, .inr (7, [.int (-1), .ref fL, .ref fS, .ref fP, .ref fT, .ref fA, .ref fQ, .ref fR, .int (nI (q_at sb k).length), .ref fN])), (fS, .inl (cI, 3, (.inl gs))), (fA, .inl (cI, 576, (.inl ga))), (fQ, .inl (cI, 576, (.inl gq))), (fR, .inl (cI, 576, (.inl gr)))]) (_ : va_S A s.heap H locs) (ls : Array Slot) (_ : lv_has ls 10 [(0, .ref xSta), (6, .int (nI (bx_cd gb))), (7, .int (nI V)), (8, .int (nI k))]), G H locs (F0 m 58 ls []) := by
    intro f
    induction f with
    | zero =>
      intro k gs ga gq gr h5 h7 h6 hR H locs hP hD hS ls hl
      exfalso; omega
    | succ f ih =>
      intro k gs ga gq gr h5 h7 h6 hR H locs hP hD hS ls hl
      refine inn _ _ _ ?_
      have hlen := q_len hfin h7
      have hI := (q_at_ok hsi k).1
      have hwf := (q_at_ok hsi k).2
      refine lv_iload hx hb dX7_search_58 (lv_at hl 3 rfl) ?_
      refine lv_aload_n hx hb dX7_search_60 rfl (lv_at hl 0 rfl) ?_
      refine va_get (D := (dC, dI)) (ci := 7) (v := .int (nI (q_at sb k).length)) (C := RX7) (T := TX7) (N := 10) hx hb hts hiX7 hown hK hP 0 rfl rfl 8 (by decide) (hts (.fieldLink RX7 55 "ScissorsTable$Stairs" "queued" "I") (by decide +kernel)) (fun _ h9 => h9) rfl dX7_search_61 ?_
      refine lv_icmp_ge (tgt := 140) hx hb dX7_search_64 (by decide) (fun c_9 => ?_) (fun c_9 => ?_)
      · have c_9 : ((q_at sb k).length) ≤ k := (nI_leI (a := (q_at sb k).length) (b := k) (by omega) (by omega)).mp c_9
        refine lv_aload_n hx hb dX7_search_140 rfl (lv_at hl 0 rfl) ?_
        refine va_get (D := (dC, dI)) (ci := 7) (v := .ref fA) (C := RX7) (T := TX7) (N := 10) hx hb hts hiX7 hown hK hP 0 rfl rfl 5 (by decide) (hts (.fieldLink RX7 28 "ScissorsTable$Stairs" "ahead" "[I") (by decide +kernel)) (fun _ h9 => h9) rfl dX7_search_141 ?_
        refine lv_iload hx hb dX7_search_144 (lv_at hl 1 rfl) ?_
        refine va_iald hx hb hK hP 2 1 rfl rfl (vp_in_nI (by omega) (by decide)) dX7_search_146 ?_
        refine lv_topi (fun x_10 ex_10 => ?_)
        rw [nI_clamp (show bx_cd gb < 2 ^ 31 by omega)] at ex_10
        refine lv_iconst (v := (-1)) hx hb dX7_search_147 (by decide) ?_
        refine lv_icmp_eq (tgt := 155) hx hb dX7_search_148 (by decide) (fun c_11 => ?_) (fun c_11 => ?_)
        · have c_11 : ga (bx_cd gb) = -1 := ex_10.symm.trans c_11
          have hno := RC_no hR hI hgi c_11
          have hra : r_ans sb gb = -1 := r_none h7 (q_none.mpr c_9) (fun t9 e9 h9 q9 => by rw [q_has_iff.mpr ⟨t9, e9, h9, q9⟩] at hno; cases hno)
          refine lv_iconst (v := 0) hx hb dX7_search_155 (by decide) ?_
          have hP9 := hP.sub (ws' := [(xSta, .inr (7, [.int (-1), .ref fL, .ref fS, .ref fP, .ref fT, .ref fA, .ref fQ, .ref fR, .int (nI (q_at sb k).length), .ref fN])), (fS, .inl (cI, 3, (.inl gs))), (fA, .inl (cI, 576, (.inl ga))), (fQ, .inl (cI, 576, (.inl gq))), (fR, .inl (cI, 576, (.inl gr)))]) [0, 1, 2, 3, 4] rfl
          have hD9 := hD.sub (ws' := [(xSta, .inr (7, [.int (-1), .ref fL, .ref fS, .ref fP, .ref fT, .ref fA, .ref fQ, .ref fR, .int (nI (q_at sb k).length), .ref fN])), (fS, .inl (cI, 3, (.inl gs))), (fA, .inl (cI, 576, (.inl ga))), (fQ, .inl (cI, 576, (.inl gq))), (fR, .inl (cI, 576, (.inl gr)))]) [0, 1, 2, 3, 4] (by decide) rfl
          refine W.widen (k := 0) (n := 0) (Nat.le_of_ble_eq_true rfl) (Nat.le_of_ble_eq_true rfl) ?_
          exact W.zret (v := 0) hx hb hr (by decide) (fun t ht hW => ⟨⟨0, (), rfl, (Or.inl ⟨rfl, hra⟩), (nI (q_at sb k).length), gs, ga, gq, gr, (Or.inl hra), by rw [ht]; exact hP9, va_K.moved hW.alike hK, hD9⟩, hS.F ht⟩) hS.2.2 dX7_search_156
        · have c_11 : ¬ ga (bx_cd gb) = -1 := fun q9 => c_11 (ex_10.trans q9)
          obtain ⟨t9, e9, h9, g9⟩ := q_has_iff.mp (RC_yes hR hI hgi c_11)
          have hra := r_some (g := gb) hsi h7 h9 g9
          obtain ⟨gg, i0, i1, i2, i3⟩ := RC_chain hR hwf hI hsi hgi (q_at_0 k) h9 g9
          have i4 := q_lt h9
          refine lv_iconst (v := 1) hx hb dX7_search_151 (by decide) ?_
          refine lv_goto (tgt := 156) hx hb dX7_search_152 (by decide) ?_
          have hP9 := hP.sub (ws' := [(xSta, .inr (7, [.int (-1), .ref fL, .ref fS, .ref fP, .ref fT, .ref fA, .ref fQ, .ref fR, .int (nI (q_at sb k).length), .ref fN])), (fS, .inl (cI, 3, (.inl gs))), (fA, .inl (cI, 576, (.inl ga))), (fQ, .inl (cI, 576, (.inl gq))), (fR, .inl (cI, 576, (.inl gr)))]) [0, 1, 2, 3, 4] rfl
          have hD9 := hD.sub (ws' := [(xSta, .inr (7, [.int (-1), .ref fL, .ref fS, .ref fP, .ref fT, .ref fA, .ref fQ, .ref fR, .int (nI (q_at sb k).length), .ref fN])), (fS, .inl (cI, 3, (.inl gs))), (fA, .inl (cI, 576, (.inl ga))), (fQ, .inl (cI, 576, (.inl gq))), (fR, .inl (cI, 576, (.inl gr)))]) [0, 1, 2, 3, 4] (by decide) rfl
          refine W.widen (k := 0) (n := 0) (Nat.le_of_ble_eq_true rfl) (Nat.le_of_ble_eq_true rfl) ?_
          exact W.zret (v := 1) hx hb hr (by decide) (fun t ht hW => ⟨⟨1, (), rfl, (Or.inr ⟨rfl, fun q9 => nk_nm1 (show e9.2.2 < 2 ^ 31 by omega) (hra.symm.trans q9)⟩), (nI (q_at sb k).length), gs, ga, gq, gr, (Or.inr ⟨e9.2.2, gg, hra, by omega, i0, i1, i3⟩), by rw [ht]; exact hP9, va_K.moved hW.alike hK, hD9⟩, hS.F ht⟩) hS.2.2 dX7_search_156
      · have c_9 : ¬ ((q_at sb k).length) ≤ k := fun q9 => c_9 ((nI_leI (a := (q_at sb k).length) (b := k) (by omega) (by omega)).mpr q9)
        refine lv_iload hx hb dX7_search_67 (lv_at hl 3 rfl) ?_
        refine lv_sipush (v := 576) hx hb dX7_search_69 (by decide) ?_
        refine lv_icmp_ge (tgt := 140) hx hb dX7_search_72 (by decide) (fun c_12 => ?_) (fun c_12 => ?_)
        · have c_12 : 576 ≤ k := (nI_leI (a := 576) (b := k) (by omega) (by omega)).mp c_12
          exfalso
          omega
        · have c_12 : ¬ 576 ≤ k := fun q9 => c_12 ((nI_leI (a := 576) (b := k) (by omega) (by omega)).mpr q9)
          refine lv_aload_n hx hb dX7_search_75 rfl (lv_at hl 0 rfl) ?_
          refine va_get (D := (dC, dI)) (ci := 7) (v := .ref fA) (C := RX7) (T := TX7) (N := 10) hx hb hts hiX7 hown hK hP 0 rfl rfl 5 (by decide) (hts (.fieldLink RX7 28 "ScissorsTable$Stairs" "ahead" "[I") (by decide +kernel)) (fun _ h9 => h9) rfl dX7_search_76 ?_
          refine lv_iload hx hb dX7_search_79 (lv_at hl 1 rfl) ?_
          refine va_iald hx hb hK hP 2 1 rfl rfl (vp_in_nI (by omega) (by decide)) dX7_search_81 ?_
          refine lv_topi (fun x_13 ex_13 => ?_)
          rw [nI_clamp (show bx_cd gb < 2 ^ 31 by omega)] at ex_13
          refine lv_iconst (v := (-1)) hx hb dX7_search_82 (by decide) ?_
          refine lv_icmp_ne (tgt := 140) hx hb dX7_search_83 (by decide) (fun c_14 => ?_) (fun c_14 => ?_)
          · have c_14 : ¬ ga (bx_cd gb) = -1 := (fun q9 => c_14 (ex_13.trans q9))
            refine lv_aload_n hx hb dX7_search_140 rfl (lv_at hl 0 rfl) ?_
            refine va_get (D := (dC, dI)) (ci := 7) (v := .ref fA) (C := RX7) (T := TX7) (N := 10) hx hb hts hiX7 hown hK hP 0 rfl rfl 5 (by decide) (hts (.fieldLink RX7 28 "ScissorsTable$Stairs" "ahead" "[I") (by decide +kernel)) (fun _ h9 => h9) rfl dX7_search_141 ?_
            refine lv_iload hx hb dX7_search_144 (lv_at hl 1 rfl) ?_
            refine va_iald hx hb hK hP 2 1 rfl rfl (vp_in_nI (by omega) (by decide)) dX7_search_146 ?_
            refine lv_topi (fun x_15 ex_15 => ?_)
            rw [nI_clamp (show bx_cd gb < 2 ^ 31 by omega)] at ex_15
            refine lv_iconst (v := (-1)) hx hb dX7_search_147 (by decide) ?_
            refine lv_icmp_eq (tgt := 155) hx hb dX7_search_148 (by decide) (fun c_16 => ?_) (fun c_16 => ?_)
            · have c_16 : ga (bx_cd gb) = -1 := ex_15.symm.trans c_16
              exact absurd c_16 c_14
            · have c_16 : ¬ ga (bx_cd gb) = -1 := fun q9 => c_16 (ex_15.trans q9)
              obtain ⟨t9, e9, h9, g9⟩ := q_has_iff.mp (RC_yes hR hI hgi c_16)
              have hra := r_some (g := gb) hsi h7 h9 g9
              obtain ⟨gg, i0, i1, i2, i3⟩ := RC_chain hR hwf hI hsi hgi (q_at_0 k) h9 g9
              have i4 := q_lt h9
              refine lv_iconst (v := 1) hx hb dX7_search_151 (by decide) ?_
              refine lv_goto (tgt := 156) hx hb dX7_search_152 (by decide) ?_
              have hP9 := hP.sub (ws' := [(xSta, .inr (7, [.int (-1), .ref fL, .ref fS, .ref fP, .ref fT, .ref fA, .ref fQ, .ref fR, .int (nI (q_at sb k).length), .ref fN])), (fS, .inl (cI, 3, (.inl gs))), (fA, .inl (cI, 576, (.inl ga))), (fQ, .inl (cI, 576, (.inl gq))), (fR, .inl (cI, 576, (.inl gr)))]) [0, 1, 2, 3, 4] rfl
              have hD9 := hD.sub (ws' := [(xSta, .inr (7, [.int (-1), .ref fL, .ref fS, .ref fP, .ref fT, .ref fA, .ref fQ, .ref fR, .int (nI (q_at sb k).length), .ref fN])), (fS, .inl (cI, 3, (.inl gs))), (fA, .inl (cI, 576, (.inl ga))), (fQ, .inl (cI, 576, (.inl gq))), (fR, .inl (cI, 576, (.inl gr)))]) [0, 1, 2, 3, 4] (by decide) rfl
              refine W.widen (k := 0) (n := 0) (Nat.le_of_ble_eq_true rfl) (Nat.le_of_ble_eq_true rfl) ?_
              exact W.zret (v := 1) hx hb hr (by decide) (fun t ht hW => ⟨⟨1, (), rfl, (Or.inr ⟨rfl, fun q9 => nk_nm1 (show e9.2.2 < 2 ^ 31 by omega) (hra.symm.trans q9)⟩), (nI (q_at sb k).length), gs, ga, gq, gr, (Or.inr ⟨e9.2.2, gg, hra, by omega, i0, i1, i3⟩), by rw [ht]; exact hP9, va_K.moved hW.alike hK, hD9⟩, hS.F ht⟩) hS.2.2 dX7_search_156
          · have c_14 :  ga (bx_cd gb) = -1 := (ex_13.symm.trans c_14)
            obtain ⟨⟨bb, pk, d⟩, hkk⟩ := q_some (show k < (q_at sb k).length by omega)
            have hbb : bx_in V bb := hI k _ hkk
            obtain ⟨t0, t1, t2, ht0, ht1, ht2, htV, rfl⟩ := hbb
            have hcl : bx_cd (bx_mk t0 t1 t2) < 576 := bx_cd_lt (hI k _ hkk)
            obtain ⟨Q1, hQ1⟩ : ∃ T, q_sees k (d + 1) (nb_n t0 t1 t2 0 1 23 2) (q_at sb k) = T := ⟨_, rfl⟩
            obtain ⟨Q2, hQ2⟩ : ∃ T, q_sees k (d + 1) (nb_n t0 t1 t2 0 2 23 2) Q1 = T := ⟨_, rfl⟩
            obtain ⟨Q3, hQ3⟩ : ∃ T, q_sees k (d + 1) (nb_n t0 t1 t2 1 0 23 2) Q2 = T := ⟨_, rfl⟩
            obtain ⟨Q4, hQ4⟩ : ∃ T, q_sees k (d + 1) (nb_n t0 t1 t2 1 2 23 2) Q3 = T := ⟨_, rfl⟩
            obtain ⟨Q5, hQ5⟩ : ∃ T, q_sees k (d + 1) (nb_n t0 t1 t2 2 0 23 2) Q4 = T := ⟨_, rfl⟩
            obtain ⟨Q6, hQ6⟩ : ∃ T, q_sees k (d + 1) (nb_n t0 t1 t2 2 1 23 2) Q5 = T := ⟨_, rfl⟩
            have hQe : q_at sb (k + 1) = Q6 := by rw [q_next (by omega) (by omega) hkk, hQ1, hQ2, hQ3, hQ4, hQ5, hQ6]
            have hl1 := q_len hfin (show k + 1 ≤ 97 by omega)
            rw [hQe] at hl1
            have hp5 : Q5.length ≤ 96 := Nat.le_trans (q_pre_len (hQ6 ▸ q_sees_pre _ _ _ _)) hl1
            have hp4 : Q4.length ≤ 96 := Nat.le_trans (q_pre_len (hQ5 ▸ q_sees_pre _ _ _ _)) hp5
            have hp3 : Q3.length ≤ 96 := Nat.le_trans (q_pre_len (hQ4 ▸ q_sees_pre _ _ _ _)) hp4
            have hp2 : Q2.length ≤ 96 := Nat.le_trans (q_pre_len (hQ3 ▸ q_sees_pre _ _ _ _)) hp3
            have hp1 : Q1.length ≤ 96 := Nat.le_trans (q_pre_len (hQ2 ▸ q_sees_pre _ _ _ _)) hp2
            have hn0 : ∀ b9 ∈ nb_of (bx_mk t0 t1 t2), bx_in V b9 := nb_of_in (hI k _ hkk)
            rw [nb_of_mk (by omega) (by omega)] at hn0
            have hI1 : q_in V Q1 := hQ1 ▸ q_in_adds hI (fun b9 h9 => hn0 b9 (List.mem_append_left _ h9))
            have hn1 := fun b9 h9 => hn0 b9 (List.mem_append_right _ h9)
            have hk11 : Q1[k]? = some (bx_mk t0 t1 t2, pk, d) := hQ1 ▸ q_pre_at (q_sees_pre _ _ _ _) hkk
            have hI2 : q_in V Q2 := hQ2 ▸ q_in_adds hI1 (fun b9 h9 => hn1 b9 (List.mem_append_left _ h9))
            have hn2 := fun b9 h9 => hn1 b9 (List.mem_append_right _ h9)
            have hk12 : Q2[k]? = some (bx_mk t0 t1 t2, pk, d) := hQ2 ▸ q_pre_at (q_sees_pre _ _ _ _) hk11
            have hI3 : q_in V Q3 := hQ3 ▸ q_in_adds hI2 (fun b9 h9 => hn2 b9 (List.mem_append_left _ h9))
            have hn3 := fun b9 h9 => hn2 b9 (List.mem_append_right _ h9)
            have hk13 : Q3[k]? = some (bx_mk t0 t1 t2, pk, d) := hQ3 ▸ q_pre_at (q_sees_pre _ _ _ _) hk12
            have hI4 : q_in V Q4 := hQ4 ▸ q_in_adds hI3 (fun b9 h9 => hn3 b9 (List.mem_append_left _ h9))
            have hn4 := fun b9 h9 => hn3 b9 (List.mem_append_right _ h9)
            have hk14 : Q4[k]? = some (bx_mk t0 t1 t2, pk, d) := hQ4 ▸ q_pre_at (q_sees_pre _ _ _ _) hk13
            have hI5 : q_in V Q5 := hQ5 ▸ q_in_adds hI4 (fun b9 h9 => hn4 b9 (List.mem_append_left _ h9))
            have hn5 := fun b9 h9 => hn4 b9 (List.mem_append_right _ h9)
            have hk15 : Q5[k]? = some (bx_mk t0 t1 t2, pk, d) := hQ5 ▸ q_pre_at (q_sees_pre _ _ _ _) hk14
            have hI6 : q_in V Q6 := hQ6 ▸ q_in_adds hI5 (fun b9 h9 => hn5 b9 (List.mem_append_left _ h9))
            have hn6 := fun b9 h9 => hn5 b9 (List.mem_append_right _ h9)
            have hk16 : Q6[k]? = some (bx_mk t0 t1 t2, pk, d) := hQ6 ▸ q_pre_at (q_sees_pre _ _ _ _) hk15
            refine lv_aload_n hx hb dX7_search_86 rfl (lv_at hl 0 rfl) ?_
            refine lv_aload_n hx hb dX7_search_87 rfl (lv_at hl 0 rfl) ?_
            refine va_get (D := (dC, dI)) (ci := 7) (v := .ref fQ) (C := RX7) (T := TX7) (N := 10) hx hb hts hiX7 hown hK hP 0 rfl rfl 6 (by decide) (hts (.fieldLink RX7 31 "ScissorsTable$Stairs" "queue" "[I") (by decide +kernel)) (fun _ h9 => h9) rfl dX7_search_88 ?_
            refine lv_iload hx hb dX7_search_91 (lv_at hl 3 rfl) ?_
            refine va_iald hx hb hK hP 3 1 rfl rfl (vp_in_nI (by omega) (by decide)) dX7_search_93 ?_
            refine lv_topi (fun x_17 ex_17 => ?_)
            rw [nI_clamp (show k < 2 ^ 31 by omega)] at ex_17
            obtain rfl : x_17 = nI (bx_cd (bx_mk t0 t1 t2)) := ex_17.trans ((hR.1 k _ hkk).1)
            refine lv_iload hx hb dX7_search_94 (lv_at hl 2 rfl) ?_
            have hPc := hP.sub (ws' := [(xSta, .inr (7, [.int (-1), .ref fL, .ref fS, .ref fP, .ref fT, .ref fA, .ref fQ, .ref fR, .int (nI (q_at sb k).length), .ref fN])), (fS, .inl (cI, 3, (.inl gs)))]) [0, 1] rfl
            have hDc := hD.sub (ws' := [(xSta, .inr (7, [.int (-1), .ref fL, .ref fS, .ref fP, .ref fT, .ref fA, .ref fQ, .ref fR, .int (nI (q_at sb k).length), .ref fN])), (fS, .inl (cI, 3, (.inl gs)))]) [0, 1] (by decide) rfl
            have hFc := va_free (wc := [(xSta, .inr (7, [.int (-1), .ref fL, .ref fS, .ref fP, .ref fT, .ref fA, .ref fQ, .ref fR, .int (nI (q_at sb k).length), .ref fN])), (fS, .inl (cI, 3, (.inl gs)))]) hD hS hA [0, 1] rfl
            refine va_callv (va_runV (As := [.int (nI (bx_cd (bx_mk t0 t1 t2))), .int (nI V)]) (rest := []) ⟨hx, hb, hml, hown, hts⟩ (c_X7_setSides l dC dI cB cI cJ H.size xSta fL fS fP fT fA fQ fR fN (nI (q_at sb k).length) gs V t0 t1 t2 (bx_cd (bx_mk t0 t1 t2)) (⟨ht0, ht1, ht2⟩) htV hV2 (bx_cd_mk (by omega) (by omega))) (cwV 2 hts gX7_search_X7_setSides rfl rfl rfl (by decide +kernel) ⟨Nat.le_of_ble_eq_true rfl, Nat.le_of_ble_eq_true rfl⟩) ⟨fun a U g mk q => by obtain ⟨q0, q1, qP, qK, qD⟩ := q; exact ⟨q0, q1, qP, va_K.moved (u := U) (U := U.calling g mk a) (Vm.Alike.refl U.vm) qK, qD⟩, va_recv hK hP (ci := 7) (q0 := 0) rfl rfl, fun U hU hW => ⟨rfl, by rw [hU], by rw [hU]; exact hPc, va_K.moved hW.alike hK, hDc.weaken (fun _ _ _ _ => trivial)⟩⟩ rfl rfl hl.1 rfl (lv_room (Nat.le_of_ble_eq_true rfl)) dX7_search_96 ⟨Nat.le_of_ble_eq_true rfl, Nat.le_of_ble_eq_true rfl⟩) hS (fun q _ h => hFc q h) hFc (fun u t H1 locs ht hvm hw hB hz1 hk1 hS => ?_)
            obtain ⟨g_18, h_19, hP1, hK1, hD1⟩ := hB
            rw [ht] at hP1
            obtain ⟨hP, hD⟩ := va_join (wr := [(fA, .inl (cI, 576, (.inl ga))), (fQ, .inl (cI, 576, (.inl gq))), (fR, .inl (cI, 576, (.inl gr)))]) (w1 := [(xSta, .inr (7, [.int (-1), .ref fL, .ref fS, .ref fP, .ref fT, .ref fA, .ref fQ, .ref fR, .int (nI (q_at sb k).length), .ref fN])), (fS, .inl (cI, 3, (.inl g_18)))]) hP hD [0, 1] [2, 3, 4] rfl rfl (by decide) (by decide) hk1 hFc hP1 hD1
            generalize H1 = H at hP hS ⊢
            have hP : va_P (dC, dI) vwCl [(fA, .inl (cI, 576, (.inl ga))), (fQ, .inl (cI, 576, (.inl gq))), (fR, .inl (cI, 576, (.inl gr))), (xSta, .inr (7, [.int (-1), .ref fL, .ref fS, .ref fP, .ref fT, .ref fA, .ref fQ, .ref fR, .int (nI (q_at sb k).length), .ref fN])), (fS, .inl (cI, 3, (.inl g_18)))] H := hP
            have hD : va_D A [(fA, .inl (cI, 576, (.inl ga))), (fQ, .inl (cI, 576, (.inl gq))), (fR, .inl (cI, 576, (.inl gr))), (xSta, .inr (7, [.int (-1), .ref fL, .ref fS, .ref fP, .ref fT, .ref fA, .ref fQ, .ref fR, .int (nI (q_at sb k).length), .ref fN])), (fS, .inl (cI, 3, (.inl g_18)))] := hD
            refine lv_iconst (v := 0) hx hb dX7_search_99 (by decide) ?_
            refine lv_istore (lv' := [(9, .int 0), (0, .ref xSta), (6, .int (nI (bx_cd gb))), (7, .int (nI V)), (8, .int (nI k))]) hx hb dX7_search_100 hl (by decide) rfl (fun ls hl => ?_)
            refine lv_iload hx hb dX7_search_102 (lv_at hl 0 rfl) ?_
            refine lv_bipush (v := 9) hx hb dX7_search_104 (by decide) ?_
            refine lv_icmp_ge (tgt := 134) hx hb dX7_search_106 (by decide) (fun c => absurd c (by decide)) (fun _ => ?_)
            refine lv_aload_n hx hb dX7_search_109 rfl (lv_at hl 1 rfl) ?_
            refine lv_aload_n hx hb dX7_search_110 rfl (lv_at hl 1 rfl) ?_
            refine va_get (D := (dC, dI)) (ci := 7) (v := .ref fQ) (C := RX7) (T := TX7) (N := 10) hx hb hts hiX7 hown hK hP 3 rfl rfl 6 (by decide) (hts (.fieldLink RX7 31 "ScissorsTable$Stairs" "queue" "[I") (by decide +kernel)) (fun _ h9 => h9) rfl dX7_search_111 ?_
            refine lv_iload hx hb dX7_search_114 (lv_at hl 4 rfl) ?_
            refine va_iald hx hb hK hP 1 1 rfl rfl (vp_in_nI (by omega) (by decide)) dX7_search_116 ?_
            refine lv_topi (fun x_20 ex_20 => ?_)
            rw [nI_clamp (show k < 2 ^ 31 by omega)] at ex_20
            obtain rfl : x_20 = nI (bx_cd (bx_mk t0 t1 t2)) := ex_20.trans ((hR.1 k _ hkk).1)
            refine lv_iload hx hb dX7_search_117 (lv_at hl 0 rfl) ?_
            refine lv_iconst (v := 3) hx hb dX7_search_119 (by decide) ?_
            refine lv_idiv hx hb dX7_search_120 (by decide) ?_
            refine lv_topi (fun x_21 ex_21 => ?_)
            obtain rfl : x_21 = 0 := ex_21.trans (by first | rfl | decide)
            refine lv_iload hx hb dX7_search_121 (lv_at hl 0 rfl) ?_
            refine lv_iconst (v := 3) hx hb dX7_search_123 (by decide) ?_
            refine lv_irem hx hb dX7_search_124 (by decide) ?_
            refine lv_topi (fun x_22 ex_22 => ?_)
            obtain rfl : x_22 = 0 := ex_22.trans (by first | rfl | decide)
            have hPc := hP.sub (ws' := []) [] rfl
            have hDc := hD.sub (ws' := []) [] (by decide) rfl
            have hFc := va_free (wc := []) hD hS hA [] rfl
            refine va_callv (va_runV (As := [.int (nI (bx_cd (bx_mk t0 t1 t2))), .int 0, .int 0]) (rest := []) ⟨hx, hb, hml, hown, hts⟩ (c_X7_reachBy_00 l dC dI cB cI cJ H.size xSta (bx_cd (bx_mk t0 t1 t2))) (cwV 3 hts gX7_search_X7_reachBy rfl rfl rfl (by decide +kernel) ⟨Nat.le_of_ble_eq_true rfl, Nat.le_of_ble_eq_true rfl⟩) ⟨fun a U g mk q => by obtain ⟨q0, q1, qP, qK, qD⟩ := q; exact ⟨q0, q1, qP, va_K.moved (u := U) (U := U.calling g mk a) (Vm.Alike.refl U.vm) qK, qD⟩, va_recv hK hP (ci := 7) (q0 := 3) rfl rfl, fun U hU hW => ⟨rfl, by rw [hU], by rw [hU]; exact hPc, va_K.moved hW.alike hK, hDc.weaken (fun _ _ _ _ => trivial)⟩⟩ rfl rfl hl.1 rfl (lv_room (Nat.le_of_ble_eq_true rfl)) dX7_search_125 ⟨Nat.le_of_ble_eq_true rfl, Nat.le_of_ble_eq_true rfl⟩) hS (fun q _ h => hFc q h) hFc (fun u t H1 locs ht hvm hw hB hz1 hk1 hS => ?_)
            have hP1 : va_P (dC, dI) vwCl [] H1 := fun k q h => by simp at h
            have hD1 : va_D (va_A [] H.size) [] := ⟨fun i j p q h => by simp at h, fun k q h => by simp at h⟩
            obtain ⟨hP, hD⟩ := va_join (wr := [(fA, .inl (cI, 576, (.inl ga))), (fQ, .inl (cI, 576, (.inl gq))), (fR, .inl (cI, 576, (.inl gr))), (xSta, .inr (7, [.int (-1), .ref fL, .ref fS, .ref fP, .ref fT, .ref fA, .ref fQ, .ref fR, .int (nI (q_at sb k).length), .ref fN])), (fS, .inl (cI, 3, (.inl g_18)))]) (w1 := []) hP hD [] [0, 1, 2, 3, 4] rfl rfl (by decide) (by decide) hk1 hFc hP1 hD1
            generalize H1 = H at hP hS ⊢
            have hP : va_P (dC, dI) vwCl [(fA, .inl (cI, 576, (.inl ga))), (fQ, .inl (cI, 576, (.inl gq))), (fR, .inl (cI, 576, (.inl gr))), (xSta, .inr (7, [.int (-1), .ref fL, .ref fS, .ref fP, .ref fT, .ref fA, .ref fQ, .ref fR, .int (nI (q_at sb k).length), .ref fN])), (fS, .inl (cI, 3, (.inl g_18)))] H := hP
            have hD : va_D A [(fA, .inl (cI, 576, (.inl ga))), (fQ, .inl (cI, 576, (.inl gq))), (fR, .inl (cI, 576, (.inl gr))), (xSta, .inr (7, [.int (-1), .ref fL, .ref fS, .ref fP, .ref fT, .ref fA, .ref fQ, .ref fR, .int (nI (q_at sb k).length), .ref fN])), (fS, .inl (cI, 3, (.inl g_18)))] := hD
            refine lv_iinc (v := 1) (lv' := [(9, .int 1), (0, .ref xSta), (6, .int (nI (bx_cd gb))), (7, .int (nI V)), (8, .int (nI k))]) hx hb dX7_search_128 hl (k := 0) rfl (by decide) (by decide) rfl (fun ls hl => ?_)
            refine lv_goto (tgt := 102) hx hb dX7_search_131 (by decide) ?_
            refine lv_iload hx hb dX7_search_102 (lv_at hl 0 rfl) ?_
            refine lv_bipush (v := 9) hx hb dX7_search_104 (by decide) ?_
            refine lv_icmp_ge (tgt := 134) hx hb dX7_search_106 (by decide) (fun c => absurd c (by decide)) (fun _ => ?_)
            refine lv_aload_n hx hb dX7_search_109 rfl (lv_at hl 1 rfl) ?_
            refine lv_aload_n hx hb dX7_search_110 rfl (lv_at hl 1 rfl) ?_
            refine va_get (D := (dC, dI)) (ci := 7) (v := .ref fQ) (C := RX7) (T := TX7) (N := 10) hx hb hts hiX7 hown hK hP 3 rfl rfl 6 (by decide) (hts (.fieldLink RX7 31 "ScissorsTable$Stairs" "queue" "[I") (by decide +kernel)) (fun _ h9 => h9) rfl dX7_search_111 ?_
            refine lv_iload hx hb dX7_search_114 (lv_at hl 4 rfl) ?_
            refine va_iald hx hb hK hP 1 1 rfl rfl (vp_in_nI (by omega) (by decide)) dX7_search_116 ?_
            refine lv_topi (fun x_23 ex_23 => ?_)
            rw [nI_clamp (show k < 2 ^ 31 by omega)] at ex_23
            obtain rfl : x_23 = nI (bx_cd (bx_mk t0 t1 t2)) := ex_23.trans ((hR.1 k _ hkk).1)
            refine lv_iload hx hb dX7_search_117 (lv_at hl 0 rfl) ?_
            refine lv_iconst (v := 3) hx hb dX7_search_119 (by decide) ?_
            refine lv_idiv hx hb dX7_search_120 (by decide) ?_
            refine lv_topi (fun x_24 ex_24 => ?_)
            obtain rfl : x_24 = 0 := ex_24.trans (by first | rfl | decide)
            refine lv_iload hx hb dX7_search_121 (lv_at hl 0 rfl) ?_
            refine lv_iconst (v := 3) hx hb dX7_search_123 (by decide) ?_
            refine lv_irem hx hb dX7_search_124 (by decide) ?_
            refine lv_topi (fun x_25 ex_25 => ?_)
            obtain rfl : x_25 = 1 := ex_25.trans (by first | rfl | decide)
            have hPc := hP.sub (ws' := [(xSta, .inr (7, [.int (-1), .ref fL, .ref fS, .ref fP, .ref fT, .ref fA, .ref fQ, .ref fR, .int (nI (q_at sb k).length), .ref fN])), (fS, .inl (cI, 3, (.inl g_18))), (fA, .inl (cI, 576, (.inl ga))), (fQ, .inl (cI, 576, (.inl gq))), (fR, .inl (cI, 576, (.inl gr)))]) [3, 4, 0, 1, 2] rfl
            have hDc := hD.sub (ws' := [(xSta, .inr (7, [.int (-1), .ref fL, .ref fS, .ref fP, .ref fT, .ref fA, .ref fQ, .ref fR, .int (nI (q_at sb k).length), .ref fN])), (fS, .inl (cI, 3, (.inl g_18))), (fA, .inl (cI, 576, (.inl ga))), (fQ, .inl (cI, 576, (.inl gq))), (fR, .inl (cI, 576, (.inl gr)))]) [3, 4, 0, 1, 2] (by decide) rfl
            have hFc := va_free (wc := [(xSta, .inr (7, [.int (-1), .ref fL, .ref fS, .ref fP, .ref fT, .ref fA, .ref fQ, .ref fR, .int (nI (q_at sb k).length), .ref fN])), (fS, .inl (cI, 3, (.inl g_18))), (fA, .inl (cI, 576, (.inl ga))), (fQ, .inl (cI, 576, (.inl gq))), (fR, .inl (cI, 576, (.inl gr)))]) hD hS hA [3, 4, 0, 1, 2] rfl
            refine va_callv (va_runV (As := [.int (nI (bx_cd (bx_mk t0 t1 t2))), .int 0, .int 1]) (rest := []) ⟨hx, hb, hml, hown, hts⟩ (c_X7_reachBy_01 l dC dI cB cI cJ H.size xSta fL fS fP fT fA fQ fR fN (q_at sb k) Q1 g_18 ga gq gr V t0 t1 t2 (bx_cd (bx_mk t0 t1 t2)) k pk d (⟨ht0, ht1, ht2⟩) htV h_19 rfl hkk hI hR hQ1 (by omega)) (cwV 3 hts gX7_search_X7_reachBy rfl rfl rfl (by decide +kernel) ⟨Nat.le_of_ble_eq_true rfl, Nat.le_of_ble_eq_true rfl⟩) ⟨fun a U g mk q => by obtain ⟨q0, q1, qP, qK, qD⟩ := q; exact ⟨q0, q1, qP, va_K.moved (u := U) (U := U.calling g mk a) (Vm.Alike.refl U.vm) qK, qD⟩, va_recv hK hP (ci := 7) (q0 := 3) rfl rfl, fun U hU hW => ⟨rfl, by rw [hU], by rw [hU]; exact hPc, va_K.moved hW.alike hK, hDc.weaken (fun _ _ _ _ => trivial)⟩⟩ rfl rfl hl.1 rfl (lv_room (Nat.le_of_ble_eq_true rfl)) dX7_search_125 ⟨Nat.le_of_ble_eq_true rfl, Nat.le_of_ble_eq_true rfl⟩) hS (fun q _ h => hFc q h) hFc (fun u t H1 locs ht hvm hw hB hz1 hk1 hS => ?_)
            obtain ⟨g_26, g_27, g_28, h_29, hP1, hK1, hD1⟩ := hB
            rw [ht] at hP1
            obtain ⟨hP, hD⟩ := va_join (wr := []) (w1 := [(xSta, .inr (7, [.int (-1), .ref fL, .ref fS, .ref fP, .ref fT, .ref fA, .ref fQ, .ref fR, .int (nI Q1.length), .ref fN])), (fS, .inl (cI, 3, (.inl g_18))), (fA, .inl (cI, 576, (.inl g_26))), (fQ, .inl (cI, 576, (.inl g_27))), (fR, .inl (cI, 576, (.inl g_28)))]) hP hD [3, 4, 0, 1, 2] [] rfl rfl (by decide) (by decide) hk1 hFc hP1 hD1
            generalize H1 = H at hP hS ⊢
            have hP : va_P (dC, dI) vwCl [(xSta, .inr (7, [.int (-1), .ref fL, .ref fS, .ref fP, .ref fT, .ref fA, .ref fQ, .ref fR, .int (nI Q1.length), .ref fN])), (fS, .inl (cI, 3, (.inl g_18))), (fA, .inl (cI, 576, (.inl g_26))), (fQ, .inl (cI, 576, (.inl g_27))), (fR, .inl (cI, 576, (.inl g_28)))] H := hP
            have hD : va_D A [(xSta, .inr (7, [.int (-1), .ref fL, .ref fS, .ref fP, .ref fT, .ref fA, .ref fQ, .ref fR, .int (nI Q1.length), .ref fN])), (fS, .inl (cI, 3, (.inl g_18))), (fA, .inl (cI, 576, (.inl g_26))), (fQ, .inl (cI, 576, (.inl g_27))), (fR, .inl (cI, 576, (.inl g_28)))] := hD
            refine lv_iinc (v := 2) (lv' := [(9, .int 2), (0, .ref xSta), (6, .int (nI (bx_cd gb))), (7, .int (nI V)), (8, .int (nI k))]) hx hb dX7_search_128 hl (k := 0) rfl (by decide) (by decide) rfl (fun ls hl => ?_)
            refine lv_goto (tgt := 102) hx hb dX7_search_131 (by decide) ?_
            refine lv_iload hx hb dX7_search_102 (lv_at hl 0 rfl) ?_
            refine lv_bipush (v := 9) hx hb dX7_search_104 (by decide) ?_
            refine lv_icmp_ge (tgt := 134) hx hb dX7_search_106 (by decide) (fun c => absurd c (by decide)) (fun _ => ?_)
            refine lv_aload_n hx hb dX7_search_109 rfl (lv_at hl 1 rfl) ?_
            refine lv_aload_n hx hb dX7_search_110 rfl (lv_at hl 1 rfl) ?_
            refine va_get (D := (dC, dI)) (ci := 7) (v := .ref fQ) (C := RX7) (T := TX7) (N := 10) hx hb hts hiX7 hown hK hP 0 rfl rfl 6 (by decide) (hts (.fieldLink RX7 31 "ScissorsTable$Stairs" "queue" "[I") (by decide +kernel)) (fun _ h9 => h9) rfl dX7_search_111 ?_
            refine lv_iload hx hb dX7_search_114 (lv_at hl 4 rfl) ?_
            refine va_iald hx hb hK hP 3 1 rfl rfl (vp_in_nI (by omega) (by decide)) dX7_search_116 ?_
            refine lv_topi (fun x_30 ex_30 => ?_)
            rw [nI_clamp (show k < 2 ^ 31 by omega)] at ex_30
            obtain rfl : x_30 = nI (bx_cd (bx_mk t0 t1 t2)) := ex_30.trans ((h_29.1 k _ hk11).1)
            refine lv_iload hx hb dX7_search_117 (lv_at hl 0 rfl) ?_
            refine lv_iconst (v := 3) hx hb dX7_search_119 (by decide) ?_
            refine lv_idiv hx hb dX7_search_120 (by decide) ?_
            refine lv_topi (fun x_31 ex_31 => ?_)
            obtain rfl : x_31 = 0 := ex_31.trans (by first | rfl | decide)
            refine lv_iload hx hb dX7_search_121 (lv_at hl 0 rfl) ?_
            refine lv_iconst (v := 3) hx hb dX7_search_123 (by decide) ?_
            refine lv_irem hx hb dX7_search_124 (by decide) ?_
            refine lv_topi (fun x_32 ex_32 => ?_)
            obtain rfl : x_32 = 2 := ex_32.trans (by first | rfl | decide)
            have hPc := hP.sub (ws' := [(xSta, .inr (7, [.int (-1), .ref fL, .ref fS, .ref fP, .ref fT, .ref fA, .ref fQ, .ref fR, .int (nI Q1.length), .ref fN])), (fS, .inl (cI, 3, (.inl g_18))), (fA, .inl (cI, 576, (.inl g_26))), (fQ, .inl (cI, 576, (.inl g_27))), (fR, .inl (cI, 576, (.inl g_28)))]) [0, 1, 2, 3, 4] rfl
            have hDc := hD.sub (ws' := [(xSta, .inr (7, [.int (-1), .ref fL, .ref fS, .ref fP, .ref fT, .ref fA, .ref fQ, .ref fR, .int (nI Q1.length), .ref fN])), (fS, .inl (cI, 3, (.inl g_18))), (fA, .inl (cI, 576, (.inl g_26))), (fQ, .inl (cI, 576, (.inl g_27))), (fR, .inl (cI, 576, (.inl g_28)))]) [0, 1, 2, 3, 4] (by decide) rfl
            have hFc := va_free (wc := [(xSta, .inr (7, [.int (-1), .ref fL, .ref fS, .ref fP, .ref fT, .ref fA, .ref fQ, .ref fR, .int (nI Q1.length), .ref fN])), (fS, .inl (cI, 3, (.inl g_18))), (fA, .inl (cI, 576, (.inl g_26))), (fQ, .inl (cI, 576, (.inl g_27))), (fR, .inl (cI, 576, (.inl g_28)))]) hD hS hA [0, 1, 2, 3, 4] rfl
            refine va_callv (va_runV (As := [.int (nI (bx_cd (bx_mk t0 t1 t2))), .int 0, .int 2]) (rest := []) ⟨hx, hb, hml, hown, hts⟩ (c_X7_reachBy_02 l dC dI cB cI cJ H.size xSta fL fS fP fT fA fQ fR fN Q1 Q2 g_18 g_26 g_27 g_28 V t0 t1 t2 (bx_cd (bx_mk t0 t1 t2)) k pk d (⟨ht0, ht1, ht2⟩) htV h_19 rfl hk11 hI1 h_29 hQ2 (by omega)) (cwV 3 hts gX7_search_X7_reachBy rfl rfl rfl (by decide +kernel) ⟨Nat.le_of_ble_eq_true rfl, Nat.le_of_ble_eq_true rfl⟩) ⟨fun a U g mk q => by obtain ⟨q0, q1, qP, qK, qD⟩ := q; exact ⟨q0, q1, qP, va_K.moved (u := U) (U := U.calling g mk a) (Vm.Alike.refl U.vm) qK, qD⟩, va_recv hK hP (ci := 7) (q0 := 0) rfl rfl, fun U hU hW => ⟨rfl, by rw [hU], by rw [hU]; exact hPc, va_K.moved hW.alike hK, hDc.weaken (fun _ _ _ _ => trivial)⟩⟩ rfl rfl hl.1 rfl (lv_room (Nat.le_of_ble_eq_true rfl)) dX7_search_125 ⟨Nat.le_of_ble_eq_true rfl, Nat.le_of_ble_eq_true rfl⟩) hS (fun q _ h => hFc q h) hFc (fun u t H1 locs ht hvm hw hB hz1 hk1 hS => ?_)
            obtain ⟨g_33, g_34, g_35, h_36, hP1, hK1, hD1⟩ := hB
            rw [ht] at hP1
            obtain ⟨hP, hD⟩ := va_join (wr := []) (w1 := [(xSta, .inr (7, [.int (-1), .ref fL, .ref fS, .ref fP, .ref fT, .ref fA, .ref fQ, .ref fR, .int (nI Q2.length), .ref fN])), (fS, .inl (cI, 3, (.inl g_18))), (fA, .inl (cI, 576, (.inl g_33))), (fQ, .inl (cI, 576, (.inl g_34))), (fR, .inl (cI, 576, (.inl g_35)))]) hP hD [0, 1, 2, 3, 4] [] rfl rfl (by decide) (by decide) hk1 hFc hP1 hD1
            generalize H1 = H at hP hS ⊢
            have hP : va_P (dC, dI) vwCl [(xSta, .inr (7, [.int (-1), .ref fL, .ref fS, .ref fP, .ref fT, .ref fA, .ref fQ, .ref fR, .int (nI Q2.length), .ref fN])), (fS, .inl (cI, 3, (.inl g_18))), (fA, .inl (cI, 576, (.inl g_33))), (fQ, .inl (cI, 576, (.inl g_34))), (fR, .inl (cI, 576, (.inl g_35)))] H := hP
            have hD : va_D A [(xSta, .inr (7, [.int (-1), .ref fL, .ref fS, .ref fP, .ref fT, .ref fA, .ref fQ, .ref fR, .int (nI Q2.length), .ref fN])), (fS, .inl (cI, 3, (.inl g_18))), (fA, .inl (cI, 576, (.inl g_33))), (fQ, .inl (cI, 576, (.inl g_34))), (fR, .inl (cI, 576, (.inl g_35)))] := hD
            refine lv_iinc (v := 3) (lv' := [(9, .int 3), (0, .ref xSta), (6, .int (nI (bx_cd gb))), (7, .int (nI V)), (8, .int (nI k))]) hx hb dX7_search_128 hl (k := 0) rfl (by decide) (by decide) rfl (fun ls hl => ?_)
            refine lv_goto (tgt := 102) hx hb dX7_search_131 (by decide) ?_
            refine lv_iload hx hb dX7_search_102 (lv_at hl 0 rfl) ?_
            refine lv_bipush (v := 9) hx hb dX7_search_104 (by decide) ?_
            refine lv_icmp_ge (tgt := 134) hx hb dX7_search_106 (by decide) (fun c => absurd c (by decide)) (fun _ => ?_)
            refine lv_aload_n hx hb dX7_search_109 rfl (lv_at hl 1 rfl) ?_
            refine lv_aload_n hx hb dX7_search_110 rfl (lv_at hl 1 rfl) ?_
            refine va_get (D := (dC, dI)) (ci := 7) (v := .ref fQ) (C := RX7) (T := TX7) (N := 10) hx hb hts hiX7 hown hK hP 0 rfl rfl 6 (by decide) (hts (.fieldLink RX7 31 "ScissorsTable$Stairs" "queue" "[I") (by decide +kernel)) (fun _ h9 => h9) rfl dX7_search_111 ?_
            refine lv_iload hx hb dX7_search_114 (lv_at hl 4 rfl) ?_
            refine va_iald hx hb hK hP 3 1 rfl rfl (vp_in_nI (by omega) (by decide)) dX7_search_116 ?_
            refine lv_topi (fun x_37 ex_37 => ?_)
            rw [nI_clamp (show k < 2 ^ 31 by omega)] at ex_37
            obtain rfl : x_37 = nI (bx_cd (bx_mk t0 t1 t2)) := ex_37.trans ((h_36.1 k _ hk12).1)
            refine lv_iload hx hb dX7_search_117 (lv_at hl 0 rfl) ?_
            refine lv_iconst (v := 3) hx hb dX7_search_119 (by decide) ?_
            refine lv_idiv hx hb dX7_search_120 (by decide) ?_
            refine lv_topi (fun x_38 ex_38 => ?_)
            obtain rfl : x_38 = 1 := ex_38.trans (by first | rfl | decide)
            refine lv_iload hx hb dX7_search_121 (lv_at hl 0 rfl) ?_
            refine lv_iconst (v := 3) hx hb dX7_search_123 (by decide) ?_
            refine lv_irem hx hb dX7_search_124 (by decide) ?_
            refine lv_topi (fun x_39 ex_39 => ?_)
            obtain rfl : x_39 = 0 := ex_39.trans (by first | rfl | decide)
            have hPc := hP.sub (ws' := [(xSta, .inr (7, [.int (-1), .ref fL, .ref fS, .ref fP, .ref fT, .ref fA, .ref fQ, .ref fR, .int (nI Q2.length), .ref fN])), (fS, .inl (cI, 3, (.inl g_18))), (fA, .inl (cI, 576, (.inl g_33))), (fQ, .inl (cI, 576, (.inl g_34))), (fR, .inl (cI, 576, (.inl g_35)))]) [0, 1, 2, 3, 4] rfl
            have hDc := hD.sub (ws' := [(xSta, .inr (7, [.int (-1), .ref fL, .ref fS, .ref fP, .ref fT, .ref fA, .ref fQ, .ref fR, .int (nI Q2.length), .ref fN])), (fS, .inl (cI, 3, (.inl g_18))), (fA, .inl (cI, 576, (.inl g_33))), (fQ, .inl (cI, 576, (.inl g_34))), (fR, .inl (cI, 576, (.inl g_35)))]) [0, 1, 2, 3, 4] (by decide) rfl
            have hFc := va_free (wc := [(xSta, .inr (7, [.int (-1), .ref fL, .ref fS, .ref fP, .ref fT, .ref fA, .ref fQ, .ref fR, .int (nI Q2.length), .ref fN])), (fS, .inl (cI, 3, (.inl g_18))), (fA, .inl (cI, 576, (.inl g_33))), (fQ, .inl (cI, 576, (.inl g_34))), (fR, .inl (cI, 576, (.inl g_35)))]) hD hS hA [0, 1, 2, 3, 4] rfl
            refine va_callv (va_runV (As := [.int (nI (bx_cd (bx_mk t0 t1 t2))), .int 1, .int 0]) (rest := []) ⟨hx, hb, hml, hown, hts⟩ (c_X7_reachBy_10 l dC dI cB cI cJ H.size xSta fL fS fP fT fA fQ fR fN Q2 Q3 g_18 g_33 g_34 g_35 V t0 t1 t2 (bx_cd (bx_mk t0 t1 t2)) k pk d (⟨ht0, ht1, ht2⟩) htV h_19 rfl hk12 hI2 h_36 hQ3 (by omega)) (cwV 3 hts gX7_search_X7_reachBy rfl rfl rfl (by decide +kernel) ⟨Nat.le_of_ble_eq_true rfl, Nat.le_of_ble_eq_true rfl⟩) ⟨fun a U g mk q => by obtain ⟨q0, q1, qP, qK, qD⟩ := q; exact ⟨q0, q1, qP, va_K.moved (u := U) (U := U.calling g mk a) (Vm.Alike.refl U.vm) qK, qD⟩, va_recv hK hP (ci := 7) (q0 := 0) rfl rfl, fun U hU hW => ⟨rfl, by rw [hU], by rw [hU]; exact hPc, va_K.moved hW.alike hK, hDc.weaken (fun _ _ _ _ => trivial)⟩⟩ rfl rfl hl.1 rfl (lv_room (Nat.le_of_ble_eq_true rfl)) dX7_search_125 ⟨Nat.le_of_ble_eq_true rfl, Nat.le_of_ble_eq_true rfl⟩) hS (fun q _ h => hFc q h) hFc (fun u t H1 locs ht hvm hw hB hz1 hk1 hS => ?_)
            obtain ⟨g_40, g_41, g_42, h_43, hP1, hK1, hD1⟩ := hB
            rw [ht] at hP1
            obtain ⟨hP, hD⟩ := va_join (wr := []) (w1 := [(xSta, .inr (7, [.int (-1), .ref fL, .ref fS, .ref fP, .ref fT, .ref fA, .ref fQ, .ref fR, .int (nI Q3.length), .ref fN])), (fS, .inl (cI, 3, (.inl g_18))), (fA, .inl (cI, 576, (.inl g_40))), (fQ, .inl (cI, 576, (.inl g_41))), (fR, .inl (cI, 576, (.inl g_42)))]) hP hD [0, 1, 2, 3, 4] [] rfl rfl (by decide) (by decide) hk1 hFc hP1 hD1
            generalize H1 = H at hP hS ⊢
            have hP : va_P (dC, dI) vwCl [(xSta, .inr (7, [.int (-1), .ref fL, .ref fS, .ref fP, .ref fT, .ref fA, .ref fQ, .ref fR, .int (nI Q3.length), .ref fN])), (fS, .inl (cI, 3, (.inl g_18))), (fA, .inl (cI, 576, (.inl g_40))), (fQ, .inl (cI, 576, (.inl g_41))), (fR, .inl (cI, 576, (.inl g_42)))] H := hP
            have hD : va_D A [(xSta, .inr (7, [.int (-1), .ref fL, .ref fS, .ref fP, .ref fT, .ref fA, .ref fQ, .ref fR, .int (nI Q3.length), .ref fN])), (fS, .inl (cI, 3, (.inl g_18))), (fA, .inl (cI, 576, (.inl g_40))), (fQ, .inl (cI, 576, (.inl g_41))), (fR, .inl (cI, 576, (.inl g_42)))] := hD
            refine lv_iinc (v := 4) (lv' := [(9, .int 4), (0, .ref xSta), (6, .int (nI (bx_cd gb))), (7, .int (nI V)), (8, .int (nI k))]) hx hb dX7_search_128 hl (k := 0) rfl (by decide) (by decide) rfl (fun ls hl => ?_)
            refine lv_goto (tgt := 102) hx hb dX7_search_131 (by decide) ?_
            refine lv_iload hx hb dX7_search_102 (lv_at hl 0 rfl) ?_
            refine lv_bipush (v := 9) hx hb dX7_search_104 (by decide) ?_
            refine lv_icmp_ge (tgt := 134) hx hb dX7_search_106 (by decide) (fun c => absurd c (by decide)) (fun _ => ?_)
            refine lv_aload_n hx hb dX7_search_109 rfl (lv_at hl 1 rfl) ?_
            refine lv_aload_n hx hb dX7_search_110 rfl (lv_at hl 1 rfl) ?_
            refine va_get (D := (dC, dI)) (ci := 7) (v := .ref fQ) (C := RX7) (T := TX7) (N := 10) hx hb hts hiX7 hown hK hP 0 rfl rfl 6 (by decide) (hts (.fieldLink RX7 31 "ScissorsTable$Stairs" "queue" "[I") (by decide +kernel)) (fun _ h9 => h9) rfl dX7_search_111 ?_
            refine lv_iload hx hb dX7_search_114 (lv_at hl 4 rfl) ?_
            refine va_iald hx hb hK hP 3 1 rfl rfl (vp_in_nI (by omega) (by decide)) dX7_search_116 ?_
            refine lv_topi (fun x_44 ex_44 => ?_)
            rw [nI_clamp (show k < 2 ^ 31 by omega)] at ex_44
            obtain rfl : x_44 = nI (bx_cd (bx_mk t0 t1 t2)) := ex_44.trans ((h_43.1 k _ hk13).1)
            refine lv_iload hx hb dX7_search_117 (lv_at hl 0 rfl) ?_
            refine lv_iconst (v := 3) hx hb dX7_search_119 (by decide) ?_
            refine lv_idiv hx hb dX7_search_120 (by decide) ?_
            refine lv_topi (fun x_45 ex_45 => ?_)
            obtain rfl : x_45 = 1 := ex_45.trans (by first | rfl | decide)
            refine lv_iload hx hb dX7_search_121 (lv_at hl 0 rfl) ?_
            refine lv_iconst (v := 3) hx hb dX7_search_123 (by decide) ?_
            refine lv_irem hx hb dX7_search_124 (by decide) ?_
            refine lv_topi (fun x_46 ex_46 => ?_)
            obtain rfl : x_46 = 1 := ex_46.trans (by first | rfl | decide)
            have hPc := hP.sub (ws' := []) [] rfl
            have hDc := hD.sub (ws' := []) [] (by decide) rfl
            have hFc := va_free (wc := []) hD hS hA [] rfl
            refine va_callv (va_runV (As := [.int (nI (bx_cd (bx_mk t0 t1 t2))), .int 1, .int 1]) (rest := []) ⟨hx, hb, hml, hown, hts⟩ (c_X7_reachBy_11 l dC dI cB cI cJ H.size xSta (bx_cd (bx_mk t0 t1 t2))) (cwV 3 hts gX7_search_X7_reachBy rfl rfl rfl (by decide +kernel) ⟨Nat.le_of_ble_eq_true rfl, Nat.le_of_ble_eq_true rfl⟩) ⟨fun a U g mk q => by obtain ⟨q0, q1, qP, qK, qD⟩ := q; exact ⟨q0, q1, qP, va_K.moved (u := U) (U := U.calling g mk a) (Vm.Alike.refl U.vm) qK, qD⟩, va_recv hK hP (ci := 7) (q0 := 0) rfl rfl, fun U hU hW => ⟨rfl, by rw [hU], by rw [hU]; exact hPc, va_K.moved hW.alike hK, hDc.weaken (fun _ _ _ _ => trivial)⟩⟩ rfl rfl hl.1 rfl (lv_room (Nat.le_of_ble_eq_true rfl)) dX7_search_125 ⟨Nat.le_of_ble_eq_true rfl, Nat.le_of_ble_eq_true rfl⟩) hS (fun q _ h => hFc q h) hFc (fun u t H1 locs ht hvm hw hB hz1 hk1 hS => ?_)
            have hP1 : va_P (dC, dI) vwCl [] H1 := fun k q h => by simp at h
            have hD1 : va_D (va_A [] H.size) [] := ⟨fun i j p q h => by simp at h, fun k q h => by simp at h⟩
            obtain ⟨hP, hD⟩ := va_join (wr := [(xSta, .inr (7, [.int (-1), .ref fL, .ref fS, .ref fP, .ref fT, .ref fA, .ref fQ, .ref fR, .int (nI Q3.length), .ref fN])), (fS, .inl (cI, 3, (.inl g_18))), (fA, .inl (cI, 576, (.inl g_40))), (fQ, .inl (cI, 576, (.inl g_41))), (fR, .inl (cI, 576, (.inl g_42)))]) (w1 := []) hP hD [] [0, 1, 2, 3, 4] rfl rfl (by decide) (by decide) hk1 hFc hP1 hD1
            generalize H1 = H at hP hS ⊢
            have hP : va_P (dC, dI) vwCl [(xSta, .inr (7, [.int (-1), .ref fL, .ref fS, .ref fP, .ref fT, .ref fA, .ref fQ, .ref fR, .int (nI Q3.length), .ref fN])), (fS, .inl (cI, 3, (.inl g_18))), (fA, .inl (cI, 576, (.inl g_40))), (fQ, .inl (cI, 576, (.inl g_41))), (fR, .inl (cI, 576, (.inl g_42)))] H := hP
            have hD : va_D A [(xSta, .inr (7, [.int (-1), .ref fL, .ref fS, .ref fP, .ref fT, .ref fA, .ref fQ, .ref fR, .int (nI Q3.length), .ref fN])), (fS, .inl (cI, 3, (.inl g_18))), (fA, .inl (cI, 576, (.inl g_40))), (fQ, .inl (cI, 576, (.inl g_41))), (fR, .inl (cI, 576, (.inl g_42)))] := hD
            refine lv_iinc (v := 5) (lv' := [(9, .int 5), (0, .ref xSta), (6, .int (nI (bx_cd gb))), (7, .int (nI V)), (8, .int (nI k))]) hx hb dX7_search_128 hl (k := 0) rfl (by decide) (by decide) rfl (fun ls hl => ?_)
            refine lv_goto (tgt := 102) hx hb dX7_search_131 (by decide) ?_
            refine lv_iload hx hb dX7_search_102 (lv_at hl 0 rfl) ?_
            refine lv_bipush (v := 9) hx hb dX7_search_104 (by decide) ?_
            refine lv_icmp_ge (tgt := 134) hx hb dX7_search_106 (by decide) (fun c => absurd c (by decide)) (fun _ => ?_)
            refine lv_aload_n hx hb dX7_search_109 rfl (lv_at hl 1 rfl) ?_
            refine lv_aload_n hx hb dX7_search_110 rfl (lv_at hl 1 rfl) ?_
            refine va_get (D := (dC, dI)) (ci := 7) (v := .ref fQ) (C := RX7) (T := TX7) (N := 10) hx hb hts hiX7 hown hK hP 0 rfl rfl 6 (by decide) (hts (.fieldLink RX7 31 "ScissorsTable$Stairs" "queue" "[I") (by decide +kernel)) (fun _ h9 => h9) rfl dX7_search_111 ?_
            refine lv_iload hx hb dX7_search_114 (lv_at hl 4 rfl) ?_
            refine va_iald hx hb hK hP 3 1 rfl rfl (vp_in_nI (by omega) (by decide)) dX7_search_116 ?_
            refine lv_topi (fun x_47 ex_47 => ?_)
            rw [nI_clamp (show k < 2 ^ 31 by omega)] at ex_47
            obtain rfl : x_47 = nI (bx_cd (bx_mk t0 t1 t2)) := ex_47.trans ((h_43.1 k _ hk13).1)
            refine lv_iload hx hb dX7_search_117 (lv_at hl 0 rfl) ?_
            refine lv_iconst (v := 3) hx hb dX7_search_119 (by decide) ?_
            refine lv_idiv hx hb dX7_search_120 (by decide) ?_
            refine lv_topi (fun x_48 ex_48 => ?_)
            obtain rfl : x_48 = 1 := ex_48.trans (by first | rfl | decide)
            refine lv_iload hx hb dX7_search_121 (lv_at hl 0 rfl) ?_
            refine lv_iconst (v := 3) hx hb dX7_search_123 (by decide) ?_
            refine lv_irem hx hb dX7_search_124 (by decide) ?_
            refine lv_topi (fun x_49 ex_49 => ?_)
            obtain rfl : x_49 = 2 := ex_49.trans (by first | rfl | decide)
            have hPc := hP.sub (ws' := [(xSta, .inr (7, [.int (-1), .ref fL, .ref fS, .ref fP, .ref fT, .ref fA, .ref fQ, .ref fR, .int (nI Q3.length), .ref fN])), (fS, .inl (cI, 3, (.inl g_18))), (fA, .inl (cI, 576, (.inl g_40))), (fQ, .inl (cI, 576, (.inl g_41))), (fR, .inl (cI, 576, (.inl g_42)))]) [0, 1, 2, 3, 4] rfl
            have hDc := hD.sub (ws' := [(xSta, .inr (7, [.int (-1), .ref fL, .ref fS, .ref fP, .ref fT, .ref fA, .ref fQ, .ref fR, .int (nI Q3.length), .ref fN])), (fS, .inl (cI, 3, (.inl g_18))), (fA, .inl (cI, 576, (.inl g_40))), (fQ, .inl (cI, 576, (.inl g_41))), (fR, .inl (cI, 576, (.inl g_42)))]) [0, 1, 2, 3, 4] (by decide) rfl
            have hFc := va_free (wc := [(xSta, .inr (7, [.int (-1), .ref fL, .ref fS, .ref fP, .ref fT, .ref fA, .ref fQ, .ref fR, .int (nI Q3.length), .ref fN])), (fS, .inl (cI, 3, (.inl g_18))), (fA, .inl (cI, 576, (.inl g_40))), (fQ, .inl (cI, 576, (.inl g_41))), (fR, .inl (cI, 576, (.inl g_42)))]) hD hS hA [0, 1, 2, 3, 4] rfl
            refine va_callv (va_runV (As := [.int (nI (bx_cd (bx_mk t0 t1 t2))), .int 1, .int 2]) (rest := []) ⟨hx, hb, hml, hown, hts⟩ (c_X7_reachBy_12 l dC dI cB cI cJ H.size xSta fL fS fP fT fA fQ fR fN Q3 Q4 g_18 g_40 g_41 g_42 V t0 t1 t2 (bx_cd (bx_mk t0 t1 t2)) k pk d (⟨ht0, ht1, ht2⟩) htV h_19 rfl hk13 hI3 h_43 hQ4 (by omega)) (cwV 3 hts gX7_search_X7_reachBy rfl rfl rfl (by decide +kernel) ⟨Nat.le_of_ble_eq_true rfl, Nat.le_of_ble_eq_true rfl⟩) ⟨fun a U g mk q => by obtain ⟨q0, q1, qP, qK, qD⟩ := q; exact ⟨q0, q1, qP, va_K.moved (u := U) (U := U.calling g mk a) (Vm.Alike.refl U.vm) qK, qD⟩, va_recv hK hP (ci := 7) (q0 := 0) rfl rfl, fun U hU hW => ⟨rfl, by rw [hU], by rw [hU]; exact hPc, va_K.moved hW.alike hK, hDc.weaken (fun _ _ _ _ => trivial)⟩⟩ rfl rfl hl.1 rfl (lv_room (Nat.le_of_ble_eq_true rfl)) dX7_search_125 ⟨Nat.le_of_ble_eq_true rfl, Nat.le_of_ble_eq_true rfl⟩) hS (fun q _ h => hFc q h) hFc (fun u t H1 locs ht hvm hw hB hz1 hk1 hS => ?_)
            obtain ⟨g_50, g_51, g_52, h_53, hP1, hK1, hD1⟩ := hB
            rw [ht] at hP1
            obtain ⟨hP, hD⟩ := va_join (wr := []) (w1 := [(xSta, .inr (7, [.int (-1), .ref fL, .ref fS, .ref fP, .ref fT, .ref fA, .ref fQ, .ref fR, .int (nI Q4.length), .ref fN])), (fS, .inl (cI, 3, (.inl g_18))), (fA, .inl (cI, 576, (.inl g_50))), (fQ, .inl (cI, 576, (.inl g_51))), (fR, .inl (cI, 576, (.inl g_52)))]) hP hD [0, 1, 2, 3, 4] [] rfl rfl (by decide) (by decide) hk1 hFc hP1 hD1
            generalize H1 = H at hP hS ⊢
            have hP : va_P (dC, dI) vwCl [(xSta, .inr (7, [.int (-1), .ref fL, .ref fS, .ref fP, .ref fT, .ref fA, .ref fQ, .ref fR, .int (nI Q4.length), .ref fN])), (fS, .inl (cI, 3, (.inl g_18))), (fA, .inl (cI, 576, (.inl g_50))), (fQ, .inl (cI, 576, (.inl g_51))), (fR, .inl (cI, 576, (.inl g_52)))] H := hP
            have hD : va_D A [(xSta, .inr (7, [.int (-1), .ref fL, .ref fS, .ref fP, .ref fT, .ref fA, .ref fQ, .ref fR, .int (nI Q4.length), .ref fN])), (fS, .inl (cI, 3, (.inl g_18))), (fA, .inl (cI, 576, (.inl g_50))), (fQ, .inl (cI, 576, (.inl g_51))), (fR, .inl (cI, 576, (.inl g_52)))] := hD
            refine lv_iinc (v := 6) (lv' := [(9, .int 6), (0, .ref xSta), (6, .int (nI (bx_cd gb))), (7, .int (nI V)), (8, .int (nI k))]) hx hb dX7_search_128 hl (k := 0) rfl (by decide) (by decide) rfl (fun ls hl => ?_)
            refine lv_goto (tgt := 102) hx hb dX7_search_131 (by decide) ?_
            refine lv_iload hx hb dX7_search_102 (lv_at hl 0 rfl) ?_
            refine lv_bipush (v := 9) hx hb dX7_search_104 (by decide) ?_
            refine lv_icmp_ge (tgt := 134) hx hb dX7_search_106 (by decide) (fun c => absurd c (by decide)) (fun _ => ?_)
            refine lv_aload_n hx hb dX7_search_109 rfl (lv_at hl 1 rfl) ?_
            refine lv_aload_n hx hb dX7_search_110 rfl (lv_at hl 1 rfl) ?_
            refine va_get (D := (dC, dI)) (ci := 7) (v := .ref fQ) (C := RX7) (T := TX7) (N := 10) hx hb hts hiX7 hown hK hP 0 rfl rfl 6 (by decide) (hts (.fieldLink RX7 31 "ScissorsTable$Stairs" "queue" "[I") (by decide +kernel)) (fun _ h9 => h9) rfl dX7_search_111 ?_
            refine lv_iload hx hb dX7_search_114 (lv_at hl 4 rfl) ?_
            refine va_iald hx hb hK hP 3 1 rfl rfl (vp_in_nI (by omega) (by decide)) dX7_search_116 ?_
            refine lv_topi (fun x_54 ex_54 => ?_)
            rw [nI_clamp (show k < 2 ^ 31 by omega)] at ex_54
            obtain rfl : x_54 = nI (bx_cd (bx_mk t0 t1 t2)) := ex_54.trans ((h_53.1 k _ hk14).1)
            refine lv_iload hx hb dX7_search_117 (lv_at hl 0 rfl) ?_
            refine lv_iconst (v := 3) hx hb dX7_search_119 (by decide) ?_
            refine lv_idiv hx hb dX7_search_120 (by decide) ?_
            refine lv_topi (fun x_55 ex_55 => ?_)
            obtain rfl : x_55 = 2 := ex_55.trans (by first | rfl | decide)
            refine lv_iload hx hb dX7_search_121 (lv_at hl 0 rfl) ?_
            refine lv_iconst (v := 3) hx hb dX7_search_123 (by decide) ?_
            refine lv_irem hx hb dX7_search_124 (by decide) ?_
            refine lv_topi (fun x_56 ex_56 => ?_)
            obtain rfl : x_56 = 0 := ex_56.trans (by first | rfl | decide)
            have hPc := hP.sub (ws' := [(xSta, .inr (7, [.int (-1), .ref fL, .ref fS, .ref fP, .ref fT, .ref fA, .ref fQ, .ref fR, .int (nI Q4.length), .ref fN])), (fS, .inl (cI, 3, (.inl g_18))), (fA, .inl (cI, 576, (.inl g_50))), (fQ, .inl (cI, 576, (.inl g_51))), (fR, .inl (cI, 576, (.inl g_52)))]) [0, 1, 2, 3, 4] rfl
            have hDc := hD.sub (ws' := [(xSta, .inr (7, [.int (-1), .ref fL, .ref fS, .ref fP, .ref fT, .ref fA, .ref fQ, .ref fR, .int (nI Q4.length), .ref fN])), (fS, .inl (cI, 3, (.inl g_18))), (fA, .inl (cI, 576, (.inl g_50))), (fQ, .inl (cI, 576, (.inl g_51))), (fR, .inl (cI, 576, (.inl g_52)))]) [0, 1, 2, 3, 4] (by decide) rfl
            have hFc := va_free (wc := [(xSta, .inr (7, [.int (-1), .ref fL, .ref fS, .ref fP, .ref fT, .ref fA, .ref fQ, .ref fR, .int (nI Q4.length), .ref fN])), (fS, .inl (cI, 3, (.inl g_18))), (fA, .inl (cI, 576, (.inl g_50))), (fQ, .inl (cI, 576, (.inl g_51))), (fR, .inl (cI, 576, (.inl g_52)))]) hD hS hA [0, 1, 2, 3, 4] rfl
            refine va_callv (va_runV (As := [.int (nI (bx_cd (bx_mk t0 t1 t2))), .int 2, .int 0]) (rest := []) ⟨hx, hb, hml, hown, hts⟩ (c_X7_reachBy_20 l dC dI cB cI cJ H.size xSta fL fS fP fT fA fQ fR fN Q4 Q5 g_18 g_50 g_51 g_52 V t0 t1 t2 (bx_cd (bx_mk t0 t1 t2)) k pk d (⟨ht0, ht1, ht2⟩) htV h_19 rfl hk14 hI4 h_53 hQ5 (by omega)) (cwV 3 hts gX7_search_X7_reachBy rfl rfl rfl (by decide +kernel) ⟨Nat.le_of_ble_eq_true rfl, Nat.le_of_ble_eq_true rfl⟩) ⟨fun a U g mk q => by obtain ⟨q0, q1, qP, qK, qD⟩ := q; exact ⟨q0, q1, qP, va_K.moved (u := U) (U := U.calling g mk a) (Vm.Alike.refl U.vm) qK, qD⟩, va_recv hK hP (ci := 7) (q0 := 0) rfl rfl, fun U hU hW => ⟨rfl, by rw [hU], by rw [hU]; exact hPc, va_K.moved hW.alike hK, hDc.weaken (fun _ _ _ _ => trivial)⟩⟩ rfl rfl hl.1 rfl (lv_room (Nat.le_of_ble_eq_true rfl)) dX7_search_125 ⟨Nat.le_of_ble_eq_true rfl, Nat.le_of_ble_eq_true rfl⟩) hS (fun q _ h => hFc q h) hFc (fun u t H1 locs ht hvm hw hB hz1 hk1 hS => ?_)
            obtain ⟨g_57, g_58, g_59, h_60, hP1, hK1, hD1⟩ := hB
            rw [ht] at hP1
            obtain ⟨hP, hD⟩ := va_join (wr := []) (w1 := [(xSta, .inr (7, [.int (-1), .ref fL, .ref fS, .ref fP, .ref fT, .ref fA, .ref fQ, .ref fR, .int (nI Q5.length), .ref fN])), (fS, .inl (cI, 3, (.inl g_18))), (fA, .inl (cI, 576, (.inl g_57))), (fQ, .inl (cI, 576, (.inl g_58))), (fR, .inl (cI, 576, (.inl g_59)))]) hP hD [0, 1, 2, 3, 4] [] rfl rfl (by decide) (by decide) hk1 hFc hP1 hD1
            generalize H1 = H at hP hS ⊢
            have hP : va_P (dC, dI) vwCl [(xSta, .inr (7, [.int (-1), .ref fL, .ref fS, .ref fP, .ref fT, .ref fA, .ref fQ, .ref fR, .int (nI Q5.length), .ref fN])), (fS, .inl (cI, 3, (.inl g_18))), (fA, .inl (cI, 576, (.inl g_57))), (fQ, .inl (cI, 576, (.inl g_58))), (fR, .inl (cI, 576, (.inl g_59)))] H := hP
            have hD : va_D A [(xSta, .inr (7, [.int (-1), .ref fL, .ref fS, .ref fP, .ref fT, .ref fA, .ref fQ, .ref fR, .int (nI Q5.length), .ref fN])), (fS, .inl (cI, 3, (.inl g_18))), (fA, .inl (cI, 576, (.inl g_57))), (fQ, .inl (cI, 576, (.inl g_58))), (fR, .inl (cI, 576, (.inl g_59)))] := hD
            refine lv_iinc (v := 7) (lv' := [(9, .int 7), (0, .ref xSta), (6, .int (nI (bx_cd gb))), (7, .int (nI V)), (8, .int (nI k))]) hx hb dX7_search_128 hl (k := 0) rfl (by decide) (by decide) rfl (fun ls hl => ?_)
            refine lv_goto (tgt := 102) hx hb dX7_search_131 (by decide) ?_
            refine lv_iload hx hb dX7_search_102 (lv_at hl 0 rfl) ?_
            refine lv_bipush (v := 9) hx hb dX7_search_104 (by decide) ?_
            refine lv_icmp_ge (tgt := 134) hx hb dX7_search_106 (by decide) (fun c => absurd c (by decide)) (fun _ => ?_)
            refine lv_aload_n hx hb dX7_search_109 rfl (lv_at hl 1 rfl) ?_
            refine lv_aload_n hx hb dX7_search_110 rfl (lv_at hl 1 rfl) ?_
            refine va_get (D := (dC, dI)) (ci := 7) (v := .ref fQ) (C := RX7) (T := TX7) (N := 10) hx hb hts hiX7 hown hK hP 0 rfl rfl 6 (by decide) (hts (.fieldLink RX7 31 "ScissorsTable$Stairs" "queue" "[I") (by decide +kernel)) (fun _ h9 => h9) rfl dX7_search_111 ?_
            refine lv_iload hx hb dX7_search_114 (lv_at hl 4 rfl) ?_
            refine va_iald hx hb hK hP 3 1 rfl rfl (vp_in_nI (by omega) (by decide)) dX7_search_116 ?_
            refine lv_topi (fun x_61 ex_61 => ?_)
            rw [nI_clamp (show k < 2 ^ 31 by omega)] at ex_61
            obtain rfl : x_61 = nI (bx_cd (bx_mk t0 t1 t2)) := ex_61.trans ((h_60.1 k _ hk15).1)
            refine lv_iload hx hb dX7_search_117 (lv_at hl 0 rfl) ?_
            refine lv_iconst (v := 3) hx hb dX7_search_119 (by decide) ?_
            refine lv_idiv hx hb dX7_search_120 (by decide) ?_
            refine lv_topi (fun x_62 ex_62 => ?_)
            obtain rfl : x_62 = 2 := ex_62.trans (by first | rfl | decide)
            refine lv_iload hx hb dX7_search_121 (lv_at hl 0 rfl) ?_
            refine lv_iconst (v := 3) hx hb dX7_search_123 (by decide) ?_
            refine lv_irem hx hb dX7_search_124 (by decide) ?_
            refine lv_topi (fun x_63 ex_63 => ?_)
            obtain rfl : x_63 = 1 := ex_63.trans (by first | rfl | decide)
            have hPc := hP.sub (ws' := [(xSta, .inr (7, [.int (-1), .ref fL, .ref fS, .ref fP, .ref fT, .ref fA, .ref fQ, .ref fR, .int (nI Q5.length), .ref fN])), (fS, .inl (cI, 3, (.inl g_18))), (fA, .inl (cI, 576, (.inl g_57))), (fQ, .inl (cI, 576, (.inl g_58))), (fR, .inl (cI, 576, (.inl g_59)))]) [0, 1, 2, 3, 4] rfl
            have hDc := hD.sub (ws' := [(xSta, .inr (7, [.int (-1), .ref fL, .ref fS, .ref fP, .ref fT, .ref fA, .ref fQ, .ref fR, .int (nI Q5.length), .ref fN])), (fS, .inl (cI, 3, (.inl g_18))), (fA, .inl (cI, 576, (.inl g_57))), (fQ, .inl (cI, 576, (.inl g_58))), (fR, .inl (cI, 576, (.inl g_59)))]) [0, 1, 2, 3, 4] (by decide) rfl
            have hFc := va_free (wc := [(xSta, .inr (7, [.int (-1), .ref fL, .ref fS, .ref fP, .ref fT, .ref fA, .ref fQ, .ref fR, .int (nI Q5.length), .ref fN])), (fS, .inl (cI, 3, (.inl g_18))), (fA, .inl (cI, 576, (.inl g_57))), (fQ, .inl (cI, 576, (.inl g_58))), (fR, .inl (cI, 576, (.inl g_59)))]) hD hS hA [0, 1, 2, 3, 4] rfl
            refine va_callv (va_runV (As := [.int (nI (bx_cd (bx_mk t0 t1 t2))), .int 2, .int 1]) (rest := []) ⟨hx, hb, hml, hown, hts⟩ (c_X7_reachBy_21 l dC dI cB cI cJ H.size xSta fL fS fP fT fA fQ fR fN Q5 Q6 g_18 g_57 g_58 g_59 V t0 t1 t2 (bx_cd (bx_mk t0 t1 t2)) k pk d (⟨ht0, ht1, ht2⟩) htV h_19 rfl hk15 hI5 h_60 hQ6 (by omega)) (cwV 3 hts gX7_search_X7_reachBy rfl rfl rfl (by decide +kernel) ⟨Nat.le_of_ble_eq_true rfl, Nat.le_of_ble_eq_true rfl⟩) ⟨fun a U g mk q => by obtain ⟨q0, q1, qP, qK, qD⟩ := q; exact ⟨q0, q1, qP, va_K.moved (u := U) (U := U.calling g mk a) (Vm.Alike.refl U.vm) qK, qD⟩, va_recv hK hP (ci := 7) (q0 := 0) rfl rfl, fun U hU hW => ⟨rfl, by rw [hU], by rw [hU]; exact hPc, va_K.moved hW.alike hK, hDc.weaken (fun _ _ _ _ => trivial)⟩⟩ rfl rfl hl.1 rfl (lv_room (Nat.le_of_ble_eq_true rfl)) dX7_search_125 ⟨Nat.le_of_ble_eq_true rfl, Nat.le_of_ble_eq_true rfl⟩) hS (fun q _ h => hFc q h) hFc (fun u t H1 locs ht hvm hw hB hz1 hk1 hS => ?_)
            obtain ⟨g_64, g_65, g_66, h_67, hP1, hK1, hD1⟩ := hB
            rw [ht] at hP1
            obtain ⟨hP, hD⟩ := va_join (wr := []) (w1 := [(xSta, .inr (7, [.int (-1), .ref fL, .ref fS, .ref fP, .ref fT, .ref fA, .ref fQ, .ref fR, .int (nI Q6.length), .ref fN])), (fS, .inl (cI, 3, (.inl g_18))), (fA, .inl (cI, 576, (.inl g_64))), (fQ, .inl (cI, 576, (.inl g_65))), (fR, .inl (cI, 576, (.inl g_66)))]) hP hD [0, 1, 2, 3, 4] [] rfl rfl (by decide) (by decide) hk1 hFc hP1 hD1
            generalize H1 = H at hP hS ⊢
            have hP : va_P (dC, dI) vwCl [(xSta, .inr (7, [.int (-1), .ref fL, .ref fS, .ref fP, .ref fT, .ref fA, .ref fQ, .ref fR, .int (nI Q6.length), .ref fN])), (fS, .inl (cI, 3, (.inl g_18))), (fA, .inl (cI, 576, (.inl g_64))), (fQ, .inl (cI, 576, (.inl g_65))), (fR, .inl (cI, 576, (.inl g_66)))] H := hP
            have hD : va_D A [(xSta, .inr (7, [.int (-1), .ref fL, .ref fS, .ref fP, .ref fT, .ref fA, .ref fQ, .ref fR, .int (nI Q6.length), .ref fN])), (fS, .inl (cI, 3, (.inl g_18))), (fA, .inl (cI, 576, (.inl g_64))), (fQ, .inl (cI, 576, (.inl g_65))), (fR, .inl (cI, 576, (.inl g_66)))] := hD
            refine lv_iinc (v := 8) (lv' := [(9, .int 8), (0, .ref xSta), (6, .int (nI (bx_cd gb))), (7, .int (nI V)), (8, .int (nI k))]) hx hb dX7_search_128 hl (k := 0) rfl (by decide) (by decide) rfl (fun ls hl => ?_)
            refine lv_goto (tgt := 102) hx hb dX7_search_131 (by decide) ?_
            refine lv_iload hx hb dX7_search_102 (lv_at hl 0 rfl) ?_
            refine lv_bipush (v := 9) hx hb dX7_search_104 (by decide) ?_
            refine lv_icmp_ge (tgt := 134) hx hb dX7_search_106 (by decide) (fun c => absurd c (by decide)) (fun _ => ?_)
            refine lv_aload_n hx hb dX7_search_109 rfl (lv_at hl 1 rfl) ?_
            refine lv_aload_n hx hb dX7_search_110 rfl (lv_at hl 1 rfl) ?_
            refine va_get (D := (dC, dI)) (ci := 7) (v := .ref fQ) (C := RX7) (T := TX7) (N := 10) hx hb hts hiX7 hown hK hP 0 rfl rfl 6 (by decide) (hts (.fieldLink RX7 31 "ScissorsTable$Stairs" "queue" "[I") (by decide +kernel)) (fun _ h9 => h9) rfl dX7_search_111 ?_
            refine lv_iload hx hb dX7_search_114 (lv_at hl 4 rfl) ?_
            refine va_iald hx hb hK hP 3 1 rfl rfl (vp_in_nI (by omega) (by decide)) dX7_search_116 ?_
            refine lv_topi (fun x_68 ex_68 => ?_)
            rw [nI_clamp (show k < 2 ^ 31 by omega)] at ex_68
            obtain rfl : x_68 = nI (bx_cd (bx_mk t0 t1 t2)) := ex_68.trans ((h_67.1 k _ hk16).1)
            refine lv_iload hx hb dX7_search_117 (lv_at hl 0 rfl) ?_
            refine lv_iconst (v := 3) hx hb dX7_search_119 (by decide) ?_
            refine lv_idiv hx hb dX7_search_120 (by decide) ?_
            refine lv_topi (fun x_69 ex_69 => ?_)
            obtain rfl : x_69 = 2 := ex_69.trans (by first | rfl | decide)
            refine lv_iload hx hb dX7_search_121 (lv_at hl 0 rfl) ?_
            refine lv_iconst (v := 3) hx hb dX7_search_123 (by decide) ?_
            refine lv_irem hx hb dX7_search_124 (by decide) ?_
            refine lv_topi (fun x_70 ex_70 => ?_)
            obtain rfl : x_70 = 2 := ex_70.trans (by first | rfl | decide)
            have hPc := hP.sub (ws' := []) [] rfl
            have hDc := hD.sub (ws' := []) [] (by decide) rfl
            have hFc := va_free (wc := []) hD hS hA [] rfl
            refine va_callv (va_runV (As := [.int (nI (bx_cd (bx_mk t0 t1 t2))), .int 2, .int 2]) (rest := []) ⟨hx, hb, hml, hown, hts⟩ (c_X7_reachBy_22 l dC dI cB cI cJ H.size xSta (bx_cd (bx_mk t0 t1 t2))) (cwV 3 hts gX7_search_X7_reachBy rfl rfl rfl (by decide +kernel) ⟨Nat.le_of_ble_eq_true rfl, Nat.le_of_ble_eq_true rfl⟩) ⟨fun a U g mk q => by obtain ⟨q0, q1, qP, qK, qD⟩ := q; exact ⟨q0, q1, qP, va_K.moved (u := U) (U := U.calling g mk a) (Vm.Alike.refl U.vm) qK, qD⟩, va_recv hK hP (ci := 7) (q0 := 0) rfl rfl, fun U hU hW => ⟨rfl, by rw [hU], by rw [hU]; exact hPc, va_K.moved hW.alike hK, hDc.weaken (fun _ _ _ _ => trivial)⟩⟩ rfl rfl hl.1 rfl (lv_room (Nat.le_of_ble_eq_true rfl)) dX7_search_125 ⟨Nat.le_of_ble_eq_true rfl, Nat.le_of_ble_eq_true rfl⟩) hS (fun q _ h => hFc q h) hFc (fun u t H1 locs ht hvm hw hB hz1 hk1 hS => ?_)
            have hP1 : va_P (dC, dI) vwCl [] H1 := fun k q h => by simp at h
            have hD1 : va_D (va_A [] H.size) [] := ⟨fun i j p q h => by simp at h, fun k q h => by simp at h⟩
            obtain ⟨hP, hD⟩ := va_join (wr := [(xSta, .inr (7, [.int (-1), .ref fL, .ref fS, .ref fP, .ref fT, .ref fA, .ref fQ, .ref fR, .int (nI Q6.length), .ref fN])), (fS, .inl (cI, 3, (.inl g_18))), (fA, .inl (cI, 576, (.inl g_64))), (fQ, .inl (cI, 576, (.inl g_65))), (fR, .inl (cI, 576, (.inl g_66)))]) (w1 := []) hP hD [] [0, 1, 2, 3, 4] rfl rfl (by decide) (by decide) hk1 hFc hP1 hD1
            generalize H1 = H at hP hS ⊢
            have hP : va_P (dC, dI) vwCl [(xSta, .inr (7, [.int (-1), .ref fL, .ref fS, .ref fP, .ref fT, .ref fA, .ref fQ, .ref fR, .int (nI Q6.length), .ref fN])), (fS, .inl (cI, 3, (.inl g_18))), (fA, .inl (cI, 576, (.inl g_64))), (fQ, .inl (cI, 576, (.inl g_65))), (fR, .inl (cI, 576, (.inl g_66)))] H := hP
            have hD : va_D A [(xSta, .inr (7, [.int (-1), .ref fL, .ref fS, .ref fP, .ref fT, .ref fA, .ref fQ, .ref fR, .int (nI Q6.length), .ref fN])), (fS, .inl (cI, 3, (.inl g_18))), (fA, .inl (cI, 576, (.inl g_64))), (fQ, .inl (cI, 576, (.inl g_65))), (fR, .inl (cI, 576, (.inl g_66)))] := hD
            refine lv_iinc (v := 9) (lv' := [(9, .int 9), (0, .ref xSta), (6, .int (nI (bx_cd gb))), (7, .int (nI V)), (8, .int (nI k))]) hx hb dX7_search_128 hl (k := 0) rfl (by decide) (by decide) rfl (fun ls hl => ?_)
            refine lv_goto (tgt := 102) hx hb dX7_search_131 (by decide) ?_
            refine lv_iload hx hb dX7_search_102 (lv_at hl 0 rfl) ?_
            refine lv_bipush (v := 9) hx hb dX7_search_104 (by decide) ?_
            refine lv_icmp_ge (tgt := 134) hx hb dX7_search_106 (by decide) (fun _ => ?_) (fun c => absurd (by decide) c)
            have hk1 : k + 1 ≤ (q_at sb (k + 1)).length := by
              rw [hQe]
              have h9 := q_lt hk16
              omega
            rw [← hQe] at hP hD h_67
            have hP : va_P (dC, dI) vwCl [(xSta, .inr (7, [.int (-1), .ref fL, .ref fS, .ref fP, .ref fT, .ref fA, .ref fQ, .ref fR, .int (nI (q_at sb (k + 1)).length), .ref fN])), (fS, .inl (cI, 3, (.inl g_18))), (fA, .inl (cI, 576, (.inl g_64))), (fQ, .inl (cI, 576, (.inl g_65))), (fR, .inl (cI, 576, (.inl g_66)))] H := hP
            have hD : va_D A [(xSta, .inr (7, [.int (-1), .ref fL, .ref fS, .ref fP, .ref fT, .ref fA, .ref fQ, .ref fR, .int (nI (q_at sb (k + 1)).length), .ref fN])), (fS, .inl (cI, 3, (.inl g_18))), (fA, .inl (cI, 576, (.inl g_64))), (fQ, .inl (cI, 576, (.inl g_65))), (fR, .inl (cI, 576, (.inl g_66)))] := hD
            obtain ⟨x_71, ex_71⟩ : ∃ y : Int32, y = (nI k) + 1 := ⟨_, rfl⟩
            refine lv_iinc (v := x_71) (lv' := [(8, .int x_71), (9, .int 9), (0, .ref xSta), (6, .int (nI (bx_cd gb))), (7, .int (nI V))]) hx hb dX7_search_134 hl (k := 4) rfl (by rw [ex_71]; rfl) (by decide) rfl (fun ls hl => ?_)
            obtain rfl : x_71 = nI (k + 1) := ex_71.trans (nI_1 k)
            have hl : lv_has ls 10 [(8, .int (nI (k + 1))), (9, .int 9), (0, .ref xSta), (6, .int (nI (bx_cd gb))), (7, .int (nI V))] := hl
            refine lv_goto (tgt := 58) hx hb dX7_search_137 (by decide) ?_
            exact out _ _ _ (ih (k + 1) _ _ _ _ (by omega) (by omega) hk1 h_67 _ _ (hP.sub [0, 1, 2, 3, 4] rfl) (hD.sub [0, 1, 2, 3, 4] (by decide) rfl) hS ls (lv_sub hl [2, 3, 4, 0] rfl))
  exact loop 98 0 _ _ _ _ rfl (by omega) (by omega) (RC_0 h_5) _ _ (hP.sub [0, 1, 4, 2, 3] rfl) (hD.sub [0, 1, 4, 2, 3] (by decide) rfl) hS ls (lv_sub hl [3, 2, 1, 0] rfl)
