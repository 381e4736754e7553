set_option maxRecDepth 20000 in
theorem ggX7_reachBy_X7_sideThen : GoodIn wsX7_reachBy wsX7_sideThen := goodIn_r _ [10, 1, 14, 15, 16, 17, 18, 19, 20, 21, 22, 23] (by decide +kernel) (by decide +kernel)
set_option maxRecDepth 20000 in
theorem gX7_reachBy_X7_sideThen : GoodIn wsX7_reachBy (wsV RX7 66 RX7 yX7_sideThen wsX7_sideThen) := goodIn_app (goodIn_of _ (by decide +kernel)) ggX7_reachBy_X7_sideThen
set_option maxRecDepth 20000 in
theorem ggX7_reachBy_X7_boxOf : GoodIn wsX7_reachBy wsX7_boxOf := goodIn_r _ [13] (by decide +kernel) (by decide +kernel)
set_option maxRecDepth 20000 in
theorem gX7_reachBy_X7_boxOf : GoodIn wsX7_reachBy (va_wsS RX7 45 yX7_boxOf wsX7_boxOf) := goodIn_app (goodIn_of _ (by decide +kernel)) ggX7_reachBy_X7_boxOf
theorem dX7_reachBy_0 : decode cX7_reachBy 0 = .ok (.iconst 2, 1) := by decide +kernel
theorem dX7_reachBy_1 : decode cX7_reachBy 1 = .ok (.istore 4, 2) := by decide +kernel
theorem dX7_reachBy_3 : decode cX7_reachBy 3 = .ok (.iload 4, 2) := by decide +kernel
theorem dX7_reachBy_5 : decode cX7_reachBy 5 = .ok (.bipush 24, 2) := by decide +kernel
theorem dX7_reachBy_7 : decode cX7_reachBy 7 = .ok (.if_icmp .gt 158, 3) := by decide +kernel
theorem dX7_reachBy_10 : decode cX7_reachBy 10 = .ok (.iload_n 2, 1) := by decide +kernel
theorem dX7_reachBy_11 : decode cX7_reachBy 11 = .ok (.iload_n 3, 1) := by decide +kernel
theorem dX7_reachBy_12 : decode cX7_reachBy 12 = .ok (.if_icmp .eq 153, 3) := by decide +kernel
theorem dX7_reachBy_15 : decode cX7_reachBy 15 = .ok (.aload_n 0, 1) := by decide +kernel
theorem dX7_reachBy_16 : decode cX7_reachBy 16 = .ok (.getfield 19, 3) := by decide +kernel
theorem dX7_reachBy_19 : decode cX7_reachBy 19 = .ok (.iload_n 2, 1) := by decide +kernel
theorem dX7_reachBy_20 : decode cX7_reachBy 20 = .ok (.iaload, 1) := by decide +kernel
theorem dX7_reachBy_21 : decode cX7_reachBy 21 = .ok (.iload 4, 2) := by decide +kernel
theorem dX7_reachBy_23 : decode cX7_reachBy 23 = .ok (.irem, 1) := by decide +kernel
theorem dX7_reachBy_24 : decode cX7_reachBy 24 = .ok (.ifCond .ne 135, 3) := by decide +kernel
theorem dX7_reachBy_27 : decode cX7_reachBy 27 = .ok (.aload_n 0, 1) := by decide +kernel
theorem dX7_reachBy_28 : decode cX7_reachBy 28 = .ok (.getfield 19, 3) := by decide +kernel
theorem dX7_reachBy_31 : decode cX7_reachBy 31 = .ok (.iload_n 3, 1) := by decide +kernel
theorem dX7_reachBy_32 : decode cX7_reachBy 32 = .ok (.iaload, 1) := by decide +kernel
theorem dX7_reachBy_33 : decode cX7_reachBy 33 = .ok (.iload 4, 2) := by decide +kernel
theorem dX7_reachBy_35 : decode cX7_reachBy 35 = .ok (.iconst 1, 1) := by decide +kernel
theorem dX7_reachBy_36 : decode cX7_reachBy 36 = .ok (.isub, 1) := by decide +kernel
theorem dX7_reachBy_37 : decode cX7_reachBy 37 = .ok (.irem, 1) := by decide +kernel
theorem dX7_reachBy_38 : decode cX7_reachBy 38 = .ok (.ifCond .ne 121, 3) := by decide +kernel
theorem dX7_reachBy_41 : decode cX7_reachBy 41 = .ok (.aload_n 0, 1) := by decide +kernel
theorem dX7_reachBy_42 : decode cX7_reachBy 42 = .ok (.getfield 19, 3) := by decide +kernel
theorem dX7_reachBy_45 : decode cX7_reachBy 45 = .ok (.iload_n 3, 1) := by decide +kernel
theorem dX7_reachBy_46 : decode cX7_reachBy 46 = .ok (.iaload, 1) := by decide +kernel
theorem dX7_reachBy_47 : decode cX7_reachBy 47 = .ok (.iload 4, 2) := by decide +kernel
theorem dX7_reachBy_49 : decode cX7_reachBy 49 = .ok (.iconst 1, 1) := by decide +kernel
theorem dX7_reachBy_50 : decode cX7_reachBy 50 = .ok (.isub, 1) := by decide +kernel
theorem dX7_reachBy_51 : decode cX7_reachBy 51 = .ok (.idiv, 1) := by decide +kernel
theorem dX7_reachBy_52 : decode cX7_reachBy 52 = .ok (.iload 4, 2) := by decide +kernel
theorem dX7_reachBy_54 : decode cX7_reachBy 54 = .ok (.imul, 1) := by decide +kernel
theorem dX7_reachBy_55 : decode cX7_reachBy 55 = .ok (.bipush 24, 2) := by decide +kernel
theorem dX7_reachBy_57 : decode cX7_reachBy 57 = .ok (.if_icmp .gt 102, 3) := by decide +kernel
theorem dX7_reachBy_60 : decode cX7_reachBy 60 = .ok (.aload_n 0, 1) := by decide +kernel
theorem dX7_reachBy_61 : decode cX7_reachBy 61 = .ok (.iconst 0, 1) := by decide +kernel
theorem dX7_reachBy_62 : decode cX7_reachBy 62 = .ok (.iload_n 2, 1) := by decide +kernel
theorem dX7_reachBy_63 : decode cX7_reachBy 63 = .ok (.iload_n 3, 1) := by decide +kernel
theorem dX7_reachBy_64 : decode cX7_reachBy 64 = .ok (.iload 4, 2) := by decide +kernel
theorem dX7_reachBy_66 : decode cX7_reachBy 66 = .ok (.invokevirtual 66, 3) := by decide +kernel
theorem dX7_reachBy_69 : decode cX7_reachBy 69 = .ok (.istore 5, 2) := by decide +kernel
theorem dX7_reachBy_71 : decode cX7_reachBy 71 = .ok (.aload_n 0, 1) := by decide +kernel
theorem dX7_reachBy_72 : decode cX7_reachBy 72 = .ok (.iconst 1, 1) := by decide +kernel
theorem dX7_reachBy_73 : decode cX7_reachBy 73 = .ok (.iload_n 2, 1) := by decide +kernel
theorem dX7_reachBy_74 : decode cX7_reachBy 74 = .ok (.iload_n 3, 1) := by decide +kernel
theorem dX7_reachBy_75 : decode cX7_reachBy 75 = .ok (.iload 4, 2) := by decide +kernel
theorem dX7_reachBy_77 : decode cX7_reachBy 77 = .ok (.invokevirtual 66, 3) := by decide +kernel
theorem dX7_reachBy_80 : decode cX7_reachBy 80 = .ok (.istore 6, 2) := by decide +kernel
theorem dX7_reachBy_82 : decode cX7_reachBy 82 = .ok (.iload 5, 2) := by decide +kernel
theorem dX7_reachBy_84 : decode cX7_reachBy 84 = .ok (.iload 6, 2) := by decide +kernel
theorem dX7_reachBy_86 : decode cX7_reachBy 86 = .ok (.invokestatic 45, 3) := by decide +kernel
theorem dX7_reachBy_89 : decode cX7_reachBy 89 = .ok (.istore 7, 2) := by decide +kernel
theorem dX7_reachBy_91 : decode cX7_reachBy 91 = .ok (.aload_n 0, 1) := by decide +kernel
theorem dX7_reachBy_92 : decode cX7_reachBy 92 = .ok (.getfield 28, 3) := by decide +kernel
theorem dX7_reachBy_95 : decode cX7_reachBy 95 = .ok (.iload 7, 2) := by decide +kernel
theorem dX7_reachBy_97 : decode cX7_reachBy 97 = .ok (.iaload, 1) := by decide +kernel
theorem dX7_reachBy_98 : decode cX7_reachBy 98 = .ok (.iconst (-1), 1) := by decide +kernel
theorem dX7_reachBy_99 : decode cX7_reachBy 99 = .ok (.if_icmp .ne 60, 3) := by decide +kernel
theorem dX7_reachBy_102 : decode cX7_reachBy 102 = .ok (.aload_n 0, 1) := by decide +kernel
theorem dX7_reachBy_103 : decode cX7_reachBy 103 = .ok (.getfield 55, 3) := by decide +kernel
theorem dX7_reachBy_106 : decode cX7_reachBy 106 = .ok (.sipush 576, 3) := by decide +kernel
theorem dX7_reachBy_109 : decode cX7_reachBy 109 = .ok (.if_icmp .ge 50, 3) := by decide +kernel
theorem dX7_reachBy_112 : decode cX7_reachBy 112 = .ok (.aload_n 0, 1) := by decide +kernel
theorem dX7_reachBy_113 : decode cX7_reachBy 113 = .ok (.getfield 28, 3) := by decide +kernel
theorem dX7_reachBy_116 : decode cX7_reachBy 116 = .ok (.iload 7, 2) := by decide +kernel
theorem dX7_reachBy_118 : decode cX7_reachBy 118 = .ok (.iload_n 1, 1) := by decide +kernel
theorem dX7_reachBy_119 : decode cX7_reachBy 119 = .ok (.iastore, 1) := by decide +kernel
theorem dX7_reachBy_120 : decode cX7_reachBy 120 = .ok (.aload_n 0, 1) := by decide +kernel
theorem dX7_reachBy_121 : decode cX7_reachBy 121 = .ok (.getfield 34, 3) := by decide +kernel
theorem dX7_reachBy_124 : decode cX7_reachBy 124 = .ok (.iload 7, 2) := by decide +kernel
theorem dX7_reachBy_126 : decode cX7_reachBy 126 = .ok (.iload_n 2, 1) := by decide +kernel
theorem dX7_reachBy_127 : decode cX7_reachBy 127 = .ok (.iconst 3, 1) := by decide +kernel
theorem dX7_reachBy_128 : decode cX7_reachBy 128 = .ok (.imul, 1) := by decide +kernel
theorem dX7_reachBy_129 : decode cX7_reachBy 129 = .ok (.iload_n 3, 1) := by decide +kernel
theorem dX7_reachBy_130 : decode cX7_reachBy 130 = .ok (.iadd, 1) := by decide +kernel
theorem dX7_reachBy_131 : decode cX7_reachBy 131 = .ok (.bipush 25, 2) := by decide +kernel
theorem dX7_reachBy_133 : decode cX7_reachBy 133 = .ok (.imul, 1) := by decide +kernel
theorem dX7_reachBy_134 : decode cX7_reachBy 134 = .ok (.iload 4, 2) := by decide +kernel
theorem dX7_reachBy_136 : decode cX7_reachBy 136 = .ok (.iadd, 1) := by decide +kernel
theorem dX7_reachBy_137 : decode cX7_reachBy 137 = .ok (.iastore, 1) := by decide +kernel
theorem dX7_reachBy_138 : decode cX7_reachBy 138 = .ok (.aload_n 0, 1) := by decide +kernel
theorem dX7_reachBy_139 : decode cX7_reachBy 139 = .ok (.getfield 31, 3) := by decide +kernel
theorem dX7_reachBy_142 : decode cX7_reachBy 142 = .ok (.aload_n 0, 1) := by decide +kernel
theorem dX7_reachBy_143 : decode cX7_reachBy 143 = .ok (.getfield 55, 3) := by decide +kernel
theorem dX7_reachBy_146 : decode cX7_reachBy 146 = .ok (.iload 7, 2) := by decide +kernel
theorem dX7_reachBy_148 : decode cX7_reachBy 148 = .ok (.iastore, 1) := by decide +kernel
theorem dX7_reachBy_149 : decode cX7_reachBy 149 = .ok (.aload_n 0, 1) := by decide +kernel
theorem dX7_reachBy_150 : decode cX7_reachBy 150 = .ok (.dup, 1) := by decide +kernel
theorem dX7_reachBy_151 : decode cX7_reachBy 151 = .ok (.getfield 55, 3) := by decide +kernel
theorem dX7_reachBy_154 : decode cX7_reachBy 154 = .ok (.iconst 1, 1) := by decide +kernel
theorem dX7_reachBy_155 : decode cX7_reachBy 155 = .ok (.iadd, 1) := by decide +kernel
theorem dX7_reachBy_156 : decode cX7_reachBy 156 = .ok (.putfield 55, 3) := by decide +kernel
theorem dX7_reachBy_159 : decode cX7_reachBy 159 = .ok (.iinc 4 1, 3) := by decide +kernel
theorem dX7_reachBy_162 : decode cX7_reachBy 162 = .ok (.goto (-159), 3) := by decide +kernel
theorem dX7_reachBy_165 : decode cX7_reachBy 165 = .ok (.return_, 1) := by decide +kernel
set_option maxHeartbeats 4000000 in
set_option maxRecDepth 100000 in
theorem c_X7_reachBy_00 (l : Launch) (dC : Nat → ClassId) (dI : Nat → Nat → Nat) (cB cI cJ : ClassId) (sz : Nat) (xSta : Nat) (q : Nat) : Met l yX7_reachBy wsX7_reachBy ({ frames := 1, cells := 0, slots := 0, locals := 24 }) (va_Pc [.ref xSta, .int (nI q), .int 0, .int 0] (fun U => U.heap.size = sz ∧ va_P (dC, dI) vwCl [] U.heap ∧ va_K (dC, dI) vwCl [(cB, .byte), (cI, .int), (cJ, .long)] U ∧ va_D (fun _ => True) [])) (va_Qv (fun _ : Unit => True) (fun _ _ => True) (va_A [] sz)) 0 0 (va_A [] sz) := by
  refine Met.ofW (cc := cX7_reachBy) (maxL := 8) (ret := none) (by decide) rfl ?_
  intro p e s m args below meth c s₁ B hml hv
  obtain ⟨rfl, hsz, hP, hK, hD0⟩ := hv
  have hx := B.exec
  have hb := B.bytes
  have hr := B.returns
  have hts := atoms_spec (ws := wsX7_reachBy) B.pre
  have hown : s.vm.findClass RX7 = some m.cls := findClass_of_methodNamed B.named
  have hlocks := B.notSynchronized
  subst hsz
  have hD := hD0.self (sz := s.heap.size)
  generalize hAe : va_A [] s.heap.size = A at hD ⊢
  have hA : ∀ q : Nat, s.heap.size ≤ q → A q := fun q h => by rw [← hAe]; exact Or.inr h
  have hS : va_S A s.heap s.heap [] := va_S.rf
  have hP : va_P (dC, dI) vwCl [] s.heap := hP
  have hl := lv_entry ([.ref xSta, .int (nI q), .int 0, .int 0]) (n := 8) (Nat.le_of_ble_eq_true rfl)
  rw [lg_entry_eq]
  generalize (lg_sl ([.ref xSta, .int (nI q), .int 0, .int 0]) ++ List.replicate (8 - (lg_sl ([.ref xSta, .int (nI q), .int 0, .int 0])).length) Slot.unset).toArray = ls at hl ⊢
  have hl : lv_has ls 8 [(0, .ref xSta), (1, .int (nI q)), (2, .int 0), (3, .int 0)] := hl
  refine lv_iconst (v := 2) hx hb dX7_reachBy_0 (by decide) ?_
  refine lv_istore (lv' := [(4, .int 2), (0, .ref xSta), (1, .int (nI q)), (2, .int 0), (3, .int 0)]) hx hb dX7_reachBy_1 hl (by decide) rfl (fun ls hl => ?_)
  refine lv_iload hx hb dX7_reachBy_3 (lv_at hl 0 rfl) ?_
  refine lv_bipush (v := 24) hx hb dX7_reachBy_5 (by decide) ?_
  refine lv_icmp_gt (tgt := 165) hx hb dX7_reachBy_7 (by decide) (fun c => absurd c (by decide)) (fun _ => ?_)
  refine lv_iload_n hx hb dX7_reachBy_10 rfl (lv_at hl 3 rfl) ?_
  refine lv_iload_n hx hb dX7_reachBy_11 rfl (lv_at hl 4 rfl) ?_
  refine lv_icmp_eq (tgt := 165) hx hb dX7_reachBy_12 (by decide) (fun _ => ?_) (fun c => absurd (by decide) c)
  refine W.widen (k := 0) (n := 0) (Nat.le_of_ble_eq_true rfl) (Nat.le_of_ble_eq_true rfl) ?_
  exact W.vret hx hb hr (fun t ht hW => ⟨⟨(), rfl, trivial, trivial⟩, hS.F ht⟩) hS.2.2 dX7_reachBy_165
set_option maxHeartbeats 4000000 in
set_option maxRecDepth 100000 in
theorem c_X7_reachBy_01 (l : Launch) (dC : Nat → ClassId) (dI : Nat → Nat → Nat) (cB cI cJ : ClassId) (sz : Nat) (xSta fL fS fP fT fA fQ fR fN : Nat) (Q T : List qE) (fs fa fq fr : Nat → Int32) (V u0 u1 u2 q k pk d : Nat) (hu : (1 ≤ u0 ∧ u0 ≤ 24) ∧ (1 ≤ u1 ∧ u1 ≤ 24) ∧ (1 ≤ u2 ∧ u2 ≤ 24)) (hV : u0 * u1 * u2 = V) (hs : fs 0 = nI u0 ∧ fs 1 = nI u1 ∧ fs 2 = nI u2) (hq : q = bx_cd (bx_mk u0 u1 u2)) (hk : Q[k]? = some (bx_mk u0 u1 u2, pk, d)) (hI : q_in V Q) (hR : RC Q fa fq) (hT : q_sees k (d + 1) (nb_n u0 u1 u2 0 1 23 2) Q = T) (hTl : T.length ≤ 576) : Met l yX7_reachBy wsX7_reachBy ({ frames := 2, cells := 0, slots := 0, locals := 48 }) (va_Pc [.ref xSta, .int (nI q), .int 0, .int 1] (fun U => U.heap.size = sz ∧ va_P (dC, dI) vwCl [(xSta, .inr (7, [.int (-1), .ref fL, .ref fS, .ref fP, .ref fT, .ref fA, .ref fQ, .ref fR, .int (nI Q.length), .ref fN])), (fS, .inl (cI, 3, (.inl fs))), (fA, .inl (cI, 576, (.inl fa))), (fQ, .inl (cI, 576, (.inl fq))), (fR, .inl (cI, 576, (.inl fr)))] U.heap ∧ va_K (dC, dI) vwCl [(cB, .byte), (cI, .int), (cJ, .long)] U ∧ va_D (fun _ => True) [(xSta, .inr (7, [.int (-1), .ref fL, .ref fS, .ref fP, .ref fT, .ref fA, .ref fQ, .ref fR, .int (nI Q.length), .ref fN])), (fS, .inl (cI, 3, (.inl fs))), (fA, .inl (cI, 576, (.inl fa))), (fQ, .inl (cI, 576, (.inl fq))), (fR, .inl (cI, 576, (.inl fr)))])) (va_Qv (fun _ : Unit => True) (fun _ t => ∃ fz : Nat → Int32, ∃ fy : Nat → Int32, ∃ fw : Nat → Int32, RC T fz fy ∧ va_P (dC, dI) vwCl [(xSta, .inr (7, [.int (-1), .ref fL, .ref fS, .ref fP, .ref fT, .ref fA, .ref fQ, .ref fR, .int (nI T.length), .ref fN])), (fS, .inl (cI, 3, (.inl fs))), (fA, .inl (cI, 576, (.inl fz))), (fQ, .inl (cI, 576, (.inl fy))), (fR, .inl (cI, 576, (.inl fw)))] t.heap ∧ va_K (dC, dI) vwCl [(cB, .byte), (cI, .int), (cJ, .long)] t ∧ va_D (va_A [(xSta, .inr (7, [.int (-1), .ref fL, .ref fS, .ref fP, .ref fT, .ref fA, .ref fQ, .ref fR, .int (nI Q.length), .ref fN])), (fS, .inl (cI, 3, (.inl fs))), (fA, .inl (cI, 576, (.inl fa))), (fQ, .inl (cI, 576, (.inl fq))), (fR, .inl (cI, 576, (.inl fr)))] sz) [(xSta, .inr (7, [.int (-1), .ref fL, .ref fS, .ref fP, .ref fT, .ref fA, .ref fQ, .ref fR, .int (nI T.length), .ref fN])), (fS, .inl (cI, 3, (.inl fs))), (fA, .inl (cI, 576, (.inl fz))), (fQ, .inl (cI, 576, (.inl fy))), (fR, .inl (cI, 576, (.inl fw)))]) (va_A [(xSta, .inr (7, [.int (-1), .ref fL, .ref fS, .ref fP, .ref fT, .ref fA, .ref fQ, .ref fR, .int (nI Q.length), .ref fN])), (fS, .inl (cI, 3, (.inl fs))), (fA, .inl (cI, 576, (.inl fa))), (fQ, .inl (cI, 576, (.inl fq))), (fR, .inl (cI, 576, (.inl fr)))] sz)) 0 0 (va_A [(xSta, .inr (7, [.int (-1), .ref fL, .ref fS, .ref fP, .ref fT, .ref fA, .ref fQ, .ref fR, .int (nI Q.length), .ref fN])), (fS, .inl (cI, 3, (.inl fs))), (fA, .inl (cI, 576, (.inl fa))), (fQ, .inl (cI, 576, (.inl fq))), (fR, .inl (cI, 576, (.inl fr)))] sz) := by
  refine Met.ofW (cc := cX7_reachBy) (maxL := 8) (ret := none) (by decide) rfl ?_
  intro p e s m args below meth c s₁ B hml hv
  obtain ⟨rfl, hsz, hP, hK, hD0⟩ := hv
  have hx := B.exec
  have hb := B.bytes
  have hr := B.returns
  have hts := atoms_spec (ws := wsX7_reachBy) B.pre
  have hown : s.vm.findClass RX7 = some m.cls := findClass_of_methodNamed B.named
  have hlocks := B.notSynchronized
  have hiX7 : ∀ w ∈ u_ws RX7 TX7 10, w ∈ wsX7_reachBy := by decide +kernel
  subst hsz
  have hD := hD0.self (sz := s.heap.size)
  generalize hAe : va_A [(xSta, .inr (7, [.int (-1), .ref fL, .ref fS, .ref fP, .ref fT, .ref fA, .ref fQ, .ref fR, .int (nI Q.length), .ref fN])), (fS, .inl (cI, 3, (.inl fs))), (fA, .inl (cI, 576, (.inl fa))), (fQ, .inl (cI, 576, (.inl fq))), (fR, .inl (cI, 576, (.inl fr)))] s.heap.size = A at hD ⊢
  have hA : ∀ q : Nat, s.heap.size ≤ q → A q := fun q h => by rw [← hAe]; exact Or.inr h
  have hS : va_S A s.heap s.heap [] := va_S.rf
  have hP : va_P (dC, dI) vwCl [(xSta, .inr (7, [.int (-1), .ref fL, .ref fS, .ref fP, .ref fT, .ref fA, .ref fQ, .ref fR, .int (nI Q.length), .ref fN])), (fS, .inl (cI, 3, (.inl fs))), (fA, .inl (cI, 576, (.inl fa))), (fQ, .inl (cI, 576, (.inl fq))), (fR, .inl (cI, 576, (.inl fr)))] s.heap := hP
  have hl := lv_entry ([.ref xSta, .int (nI q), .int 0, .int 1]) (n := 8) (Nat.le_of_ble_eq_true rfl)
  rw [lg_entry_eq]
  generalize (lg_sl ([.ref xSta, .int (nI q), .int 0, .int 1]) ++ List.replicate (8 - (lg_sl ([.ref xSta, .int (nI q), .int 0, .int 1])).length) Slot.unset).toArray = ls at hl ⊢
  have hl : lv_has ls 8 [(0, .ref xSta), (1, .int (nI q)), (2, .int 0), (3, .int 1)] := hl
  refine lv_iconst (v := 2) hx hb dX7_reachBy_0 (by decide) ?_
  refine lv_istore (lv' := [(4, .int 2), (0, .ref xSta), (1, .int (nI q)), (2, .int 0), (3, .int 1)]) hx hb dX7_reachBy_1 hl (by decide) rfl (fun ls hl => ?_)
  refine nk_G (fun G inn out => ?_)
  have loop : ∀ (f : Nat) (n : Nat) (P : List qE) (ga : Nat → Int32) (gq : Nat → Int32) (gr : Nat → Int32) (h5 : n + f = 26) (h6 : 2 ≤ n) (h7 : n ≤ 25) (hP0 : P[k]? = some (bx_mk u0 u1 u2, pk, d)) (hPI : q_in V P) (hPR : RC P ga gq) (hPT : q_sees k (d + 1) (nb_n u0 u1 u2 0 1 (25 - n) n) P = T) (H : Heap) (locs : List Loc) (_ : va_P (dC, dI) vwCl [(xSta, .inr (7, [.int (-1), .ref fL, .ref fS, .ref fP, .ref fT, .ref fA, .ref fQ, .ref fR, .int (nI P.length), .ref fN])), (fS, .inl (cI, 3, (.inl fs))), (fA, .inl (cI, 576, (.inl ga))), (fQ, .inl (cI, 576, (.inl gq))), (fR, .inl (cI, 576, (.inl gr)))] H) (_ : va_D A [(xSta, .inr (7, [.int (-1), .ref fL, .ref fS, .ref fP, .ref fT, .ref fA, .ref fQ, .ref fR, .int (nI P.length), .ref fN])), (fS, .inl (cI, 3, (.inl fs))), (fA, .inl (cI, 576, (.inl ga))), (fQ, .inl (cI, 576, (.inl gq))), (fR, .inl (cI, 576, (.inl gr)))]) (_ : va_S A s.heap H locs) (ls : Array Slot) (_ : lv_has ls 8 [(0, .ref xSta), (1, .int (nI q)), (2, .int 0), (3, .int 1), (4, .int (nI n))]), G H locs (F0 m 3 ls []) := by
    intro f
    induction f with
    | zero =>
      intro n P ga gq gr h5 h6 h7 hP0 hPI hPR hPT H locs hP hD hS ls hl
      exfalso; omega
    | succ f ih =>
      intro n P ga gq gr h5 h6 h7 hP0 hPI hPR hPT H locs hP hD hS ls hl
      refine inn _ _ _ ?_
      refine lv_iload hx hb dX7_reachBy_3 (lv_at hl 4 rfl) ?_
      refine lv_bipush (v := 24) hx hb dX7_reachBy_5 (by decide) ?_
      refine lv_icmp_gt (tgt := 165) hx hb dX7_reachBy_7 (by decide) (fun c_1 => ?_) (fun c_1 => ?_)
      · have c_1 : 24 < n := (nI_ltI (a := 24) (b := n) (by omega) (by omega)).mp c_1
        have hPe : P = T := by
          have h9 : 25 - n = 0 := by omega
          rw [h9] at hPT
          exact hPT
        rw [hPe] at hP hD hPR
        have hP : va_P (dC, dI) vwCl [(xSta, .inr (7, [.int (-1), .ref fL, .ref fS, .ref fP, .ref fT, .ref fA, .ref fQ, .ref fR, .int (nI T.length), .ref fN])), (fS, .inl (cI, 3, (.inl fs))), (fA, .inl (cI, 576, (.inl ga))), (fQ, .inl (cI, 576, (.inl gq))), (fR, .inl (cI, 576, (.inl gr)))] H := hP
        have hD : va_D A [(xSta, .inr (7, [.int (-1), .ref fL, .ref fS, .ref fP, .ref fT, .ref fA, .ref fQ, .ref fR, .int (nI T.length), .ref fN])), (fS, .inl (cI, 3, (.inl fs))), (fA, .inl (cI, 576, (.inl ga))), (fQ, .inl (cI, 576, (.inl gq))), (fR, .inl (cI, 576, (.inl gr)))] := hD
        have hP9 := hP.sub (ws' := [(xSta, .inr (7, [.int (-1), .ref fL, .ref fS, .ref fP, .ref fT, .ref fA, .ref fQ, .ref fR, .int (nI T.length), .ref fN])), (fS, .inl (cI, 3, (.inl fs))), (fA, .inl (cI, 576, (.inl ga))), (fQ, .inl (cI, 576, (.inl gq))), (fR, .inl (cI, 576, (.inl gr)))]) [0, 1, 2, 3, 4] rfl
        have hD9 := hD.sub (ws' := [(xSta, .inr (7, [.int (-1), .ref fL, .ref fS, .ref fP, .ref fT, .ref fA, .ref fQ, .ref fR, .int (nI T.length), .ref fN])), (fS, .inl (cI, 3, (.inl fs))), (fA, .inl (cI, 576, (.inl ga))), (fQ, .inl (cI, 576, (.inl gq))), (fR, .inl (cI, 576, (.inl gr)))]) [0, 1, 2, 3, 4] (by decide) rfl
        exact W.vret hx hb hr (fun t ht hW => ⟨⟨(), rfl, trivial, ga, gq, gr, hPR, by rw [ht]; exact hP9, va_K.moved hW.alike hK, hD9⟩, hS.F ht⟩) hS.2.2 dX7_reachBy_165
      · have c_1 : ¬ 24 < n := fun q9 => c_1 ((nI_ltI (a := 24) (b := n) (by omega) (by omega)).mpr q9)
        have hPl : P.length ≤ 576 := Nat.le_trans (q_pre_len (hPT ▸ q_sees_pre k (d + 1) (nb_n u0 u1 u2 0 1 (25 - n) n) P)) hTl
        have hf1 : 25 - n = (25 - (n + 1)) + 1 := by omega
        rw [hf1] at hPT
        have r1 : u0 % n ≤ 24 := Nat.le_trans (Nat.mod_le _ _) (by omega)
        have r2 : u1 % (n - 1) ≤ 24 := Nat.le_trans (Nat.mod_le _ _) (by omega)
        have r3 : u1 / (n - 1) * n ≤ 24 * 24 := Nat.mul_le_mul (Nat.le_trans (Nat.div_le_self _ _) (by omega)) (by omega)
        refine lv_iload_n hx hb dX7_reachBy_10 rfl (lv_at hl 2 rfl) ?_
        refine lv_iload_n hx hb dX7_reachBy_11 rfl (lv_at hl 3 rfl) ?_
        refine lv_icmp_eq (tgt := 165) hx hb dX7_reachBy_12 (by decide) (fun c => absurd c (by decide)) (fun _ => ?_)
        refine lv_aload_n hx hb dX7_reachBy_15 rfl (lv_at hl 0 rfl) ?_
        refine va_get (D := (dC, dI)) (ci := 7) (v := .ref fS) (C := RX7) (T := TX7) (N := 10) hx hb hts hiX7 hown hK hP 0 rfl rfl 2 (by decide) (hts (.fieldLink RX7 19 "ScissorsTable$Stairs" "sides" "[I") (by decide +kernel)) (fun _ h9 => h9) rfl dX7_reachBy_16 ?_
        refine lv_iload_n hx hb dX7_reachBy_19 rfl (lv_at hl 2 rfl) ?_
        refine va_iald hx hb hK hP 1 1 rfl rfl (by show ¬ (_ ∨ _); decide) dX7_reachBy_20 ?_
        refine lv_topi (fun x_2 ex_2 => ?_)
        have ex_2 : x_2 = fs 0 := ex_2
        obtain rfl : x_2 = nI u0 := ex_2.trans hs.1
        refine lv_iload hx hb dX7_reachBy_21 (lv_at hl 4 rfl) ?_
        refine lv_irem hx hb dX7_reachBy_23 (nI_ne0 (by omega) (by omega)) ?_
        refine lv_topi (fun x_3 ex_3 => ?_)
        obtain rfl : x_3 = nI (u0 % n) := ex_3.trans (pk_rem (a := u0) (d := n) (by omega) (by omega) (by omega))
        refine lv_if_ne (tgt := 159) hx hb dX7_reachBy_24 (by decide) (fun c_4 => ?_) (fun c_4 => ?_)
        · have c_4 : ¬ (u0 % n) = 0 := fun q9 => c_4 ((nI_eq (a := u0 % n) (b := 0) (by omega) (by omega)).mpr q9)
          obtain ⟨x_5, ex_5⟩ : ∃ y : Int32, y = (nI n) + 1 := ⟨_, rfl⟩
          refine lv_iinc (v := x_5) (lv' := [(4, .int x_5), (0, .ref xSta), (1, .int (nI q)), (2, .int 0), (3, .int 1)]) hx hb dX7_reachBy_159 hl (k := 4) rfl (by rw [ex_5]; rfl) (by decide) rfl (fun ls hl => ?_)
          obtain rfl : x_5 = nI (n + 1) := ex_5.trans (nI_1 n)
          have hl : lv_has ls 8 [(4, .int (nI (n + 1))), (0, .ref xSta), (1, .int (nI q)), (2, .int 0), (3, .int 1)] := hl
          refine lv_goto (tgt := 3) hx hb dX7_reachBy_162 (by decide) ?_
          exact out _ _ _ (ih (n + 1) P ga gq gr (by omega) (by omega) (by omega) hP0 hPI hPR ((congrArg (fun L9 => q_sees k (d + 1) L9 P) (nb_no (fun h9 => c_4 h9.1))).symm.trans hPT) _ _ (hP.sub [0, 1, 2, 3, 4] rfl) (hD.sub [0, 1, 2, 3, 4] (by decide) rfl) hS ls (lv_sub hl [1, 2, 3, 4, 0] rfl))
        · have c_4 : (u0 % n) = 0 := (nI_eq (a := u0 % n) (b := 0) (by omega) (by omega)).mp c_4
          refine lv_aload_n hx hb dX7_reachBy_27 rfl (lv_at hl 0 rfl) ?_
          refine va_get (D := (dC, dI)) (ci := 7) (v := .ref fS) (C := RX7) (T := TX7) (N := 10) hx hb hts hiX7 hown hK hP 0 rfl rfl 2 (by decide) (hts (.fieldLink RX7 19 "ScissorsTable$Stairs" "sides" "[I") (by decide +kernel)) (fun _ h9 => h9) rfl dX7_reachBy_28 ?_
          refine lv_iload_n hx hb dX7_reachBy_31 rfl (lv_at hl 3 rfl) ?_
          refine va_iald hx hb hK hP 1 1 rfl rfl (by show ¬ (_ ∨ _); decide) dX7_reachBy_32 ?_
          refine lv_topi (fun x_6 ex_6 => ?_)
          have ex_6 : x_6 = fs 1 := ex_6
          obtain rfl : x_6 = nI u1 := ex_6.trans hs.2.1
          refine lv_iload hx hb dX7_reachBy_33 (lv_at hl 4 rfl) ?_
          refine lv_iconst (v := 1) hx hb dX7_reachBy_35 (by decide) ?_
          refine lv_isub hx hb dX7_reachBy_36 ?_
          refine lv_topi (fun x_7 ex_7 => ?_)
          obtain rfl : x_7 = nI (n - 1) := ex_7.trans (pk_sub (a := n) (b := 1) (by omega))
          refine lv_irem hx hb dX7_reachBy_37 (nI_ne0 (by omega) (by omega)) ?_
          refine lv_topi (fun x_8 ex_8 => ?_)
          obtain rfl : x_8 = nI (u1 % (n - 1)) := ex_8.trans (pk_rem (a := u1) (d := n - 1) (by omega) (by omega) (by omega))
          refine lv_if_ne (tgt := 159) hx hb dX7_reachBy_38 (by decide) (fun c_9 => ?_) (fun c_9 => ?_)
          · have c_9 : ¬ (u1 % (n - 1)) = 0 := fun q9 => c_9 ((nI_eq (a := u1 % (n - 1)) (b := 0) (by omega) (by omega)).mpr q9)
            obtain ⟨x_10, ex_10⟩ : ∃ y : Int32, y = (nI n) + 1 := ⟨_, rfl⟩
            refine lv_iinc (v := x_10) (lv' := [(4, .int x_10), (0, .ref xSta), (1, .int (nI q)), (2, .int 0), (3, .int 1)]) hx hb dX7_reachBy_159 hl (k := 4) rfl (by rw [ex_10]; rfl) (by decide) rfl (fun ls hl => ?_)
            obtain rfl : x_10 = nI (n + 1) := ex_10.trans (nI_1 n)
            have hl : lv_has ls 8 [(4, .int (nI (n + 1))), (0, .ref xSta), (1, .int (nI q)), (2, .int 0), (3, .int 1)] := hl
            refine lv_goto (tgt := 3) hx hb dX7_reachBy_162 (by decide) ?_
            exact out _ _ _ (ih (n + 1) P ga gq gr (by omega) (by omega) (by omega) hP0 hPI hPR ((congrArg (fun L9 => q_sees k (d + 1) L9 P) (nb_no (fun h9 => c_9 h9.2.1))).symm.trans hPT) _ _ (hP.sub [0, 1, 2, 3, 4] rfl) (hD.sub [0, 1, 2, 3, 4] (by decide) rfl) hS ls (lv_sub hl [1, 2, 3, 4, 0] rfl))
          · have c_9 : (u1 % (n - 1)) = 0 := (nI_eq (a := u1 % (n - 1)) (b := 0) (by omega) (by omega)).mp c_9
            refine lv_aload_n hx hb dX7_reachBy_41 rfl (lv_at hl 0 rfl) ?_
            refine va_get (D := (dC, dI)) (ci := 7) (v := .ref fS) (C := RX7) (T := TX7) (N := 10) hx hb hts hiX7 hown hK hP 0 rfl rfl 2 (by decide) (hts (.fieldLink RX7 19 "ScissorsTable$Stairs" "sides" "[I") (by decide +kernel)) (fun _ h9 => h9) rfl dX7_reachBy_42 ?_
            refine lv_iload_n hx hb dX7_reachBy_45 rfl (lv_at hl 3 rfl) ?_
            refine va_iald hx hb hK hP 1 1 rfl rfl (by show ¬ (_ ∨ _); decide) dX7_reachBy_46 ?_
            refine lv_topi (fun x_11 ex_11 => ?_)
            have ex_11 : x_11 = fs 1 := ex_11
            obtain rfl : x_11 = nI u1 := ex_11.trans hs.2.1
            refine lv_iload hx hb dX7_reachBy_47 (lv_at hl 4 rfl) ?_
            refine lv_iconst (v := 1) hx hb dX7_reachBy_49 (by decide) ?_
            refine lv_isub hx hb dX7_reachBy_50 ?_
            refine lv_topi (fun x_12 ex_12 => ?_)
            obtain rfl : x_12 = nI (n - 1) := ex_12.trans (pk_sub (a := n) (b := 1) (by omega))
            refine lv_idiv hx hb dX7_reachBy_51 (nI_ne0 (by omega) (by omega)) ?_
            refine lv_topi (fun x_13 ex_13 => ?_)
            obtain rfl : x_13 = nI (u1 / (n - 1)) := ex_13.trans (pk_div (a := u1) (d := n - 1) (by omega) (by omega) (by omega))
            refine lv_iload hx hb dX7_reachBy_52 (lv_at hl 4 rfl) ?_
            refine lv_imul hx hb dX7_reachBy_54 ?_
            refine lv_topi (fun x_14 ex_14 => ?_)
            obtain rfl : x_14 = nI ((u1 / (n - 1)) * n) := ex_14.trans (pk_mul (u1 / (n - 1)) n)
            refine lv_bipush (v := 24) hx hb dX7_reachBy_55 (by decide) ?_
            refine lv_icmp_gt (tgt := 159) hx hb dX7_reachBy_57 (by decide) (fun c_15 => ?_) (fun c_15 => ?_)
            · have c_15 : 24 < ((u1 / (n - 1)) * n) := (nI_ltI (a := 24) (b := (u1 / (n - 1)) * n) (by omega) (by omega)).mp c_15
              obtain ⟨x_16, ex_16⟩ : ∃ y : Int32, y = (nI n) + 1 := ⟨_, rfl⟩
              refine lv_iinc (v := x_16) (lv' := [(4, .int x_16), (0, .ref xSta), (1, .int (nI q)), (2, .int 0), (3, .int 1)]) hx hb dX7_reachBy_159 hl (k := 4) rfl (by rw [ex_16]; rfl) (by decide) rfl (fun ls hl => ?_)
              obtain rfl : x_16 = nI (n + 1) := ex_16.trans (nI_1 n)
              have hl : lv_has ls 8 [(4, .int (nI (n + 1))), (0, .ref xSta), (1, .int (nI q)), (2, .int 0), (3, .int 1)] := hl
              refine lv_goto (tgt := 3) hx hb dX7_reachBy_162 (by decide) ?_
              exact out _ _ _ (ih (n + 1) P ga gq gr (by omega) (by omega) (by omega) hP0 hPI hPR ((congrArg (fun L9 => q_sees k (d + 1) L9 P) (nb_no (fun h9 => Nat.not_le.mpr c_15 h9.2.2))).symm.trans hPT) _ _ (hP.sub [0, 1, 2, 3, 4] rfl) (hD.sub [0, 1, 2, 3, 4] (by decide) rfl) hS ls (lv_sub hl [1, 2, 3, 4, 0] rfl))
            · have c_15 : ¬ 24 < ((u1 / (n - 1)) * n) := fun q9 => c_15 ((nI_ltI (a := 24) (b := (u1 / (n - 1)) * n) (by omega) (by omega)).mpr q9)
              have o3 : u1 / (n - 1) * n ≤ 24 := Nat.not_lt.mp c_15
              have oo : sd u0 u1 u2 0 % n = 0 ∧ sd u0 u1 u2 1 % (n - 1) = 0 ∧ sd u0 u1 u2 1 / (n - 1) * n ≤ 24 := ⟨c_4, c_9, o3⟩
              have l1 := st_lo h6 (show 1 ≤ u0 by omega) (show u0 ≤ 24 by omega) c_4
              have l2 := st_hi h6 (show 1 ≤ u1 by omega) c_9
              have hgo : bx_in V (st_go u0 u1 u2 0 1 n) := st_go_in hu.1 hu.2.1 hu.2.2 hV (by decide) (by decide) (by decide) h6 (st_ok_iff.mpr oo)
              rw [nb_yes oo] at hPT
              have hPT : q_sees k (d + 1) (nb_n u0 u1 u2 0 1 (25 - (n + 1)) (n + 1)) (q_see P k (d + 1) (st_go u0 u1 u2 0 1 n)) = T := hPT
              refine lv_aload_n hx hb dX7_reachBy_60 rfl (lv_at hl 0 rfl) ?_
              refine lv_iconst (v := 0) hx hb dX7_reachBy_61 (by decide) ?_
              refine lv_iload_n hx hb dX7_reachBy_62 rfl (lv_at hl 2 rfl) ?_
              refine lv_iload_n hx hb dX7_reachBy_63 rfl (lv_at hl 3 rfl) ?_
              refine lv_iload hx hb dX7_reachBy_64 (lv_at hl 4 rfl) ?_
              have hPc := hP.sub (ws' := [(xSta, .inr (7, [.int (-1), .ref fL, .ref fS, .ref fP, .ref fT, .ref fA, .ref fQ, .ref fR, .int (nI P.length), .ref fN])), (fS, .inl (cI, 3, (.inl fs)))]) [0, 1] rfl
              have hDc := hD.sub (ws' := [(xSta, .inr (7, [.int (-1), .ref fL, .ref fS, .ref fP, .ref fT, .ref fA, .ref fQ, .ref fR, .int (nI P.length), .ref fN])), (fS, .inl (cI, 3, (.inl fs)))]) [0, 1] (by decide) rfl
              have hFc := va_free (wc := [(xSta, .inr (7, [.int (-1), .ref fL, .ref fS, .ref fP, .ref fT, .ref fA, .ref fQ, .ref fR, .int (nI P.length), .ref fN])), (fS, .inl (cI, 3, (.inl fs)))]) hD hS hA [0, 1] rfl
              refine va_calli (va_runV (As := [.int 0, .int 0, .int 1, .int (nI n)]) (rest := []) ⟨hx, hb, hml, hown, hts⟩ (c_X7_sideThen_001 l dC dI cB cI cJ H.size xSta fL fS fP fT fA fQ fR fN (nI P.length) fs u0 n hs.1 (by omega) (by omega)) (cwV 4 hts gX7_reachBy_X7_sideThen rfl rfl rfl (by decide +kernel) ⟨Nat.le_of_ble_eq_true rfl, Nat.le_of_ble_eq_true rfl⟩) ⟨fun a U g mk q => by obtain ⟨q0, q1, qP, qK, qD⟩ := q; exact ⟨q0, q1, qP, va_K.moved (u := U) (U := U.calling g mk a) (Vm.Alike.refl U.vm) qK, qD⟩, va_recv hK hP (ci := 7) (q0 := 0) rfl rfl, fun U hU hW => ⟨rfl, by rw [hU], by rw [hU]; exact hPc, va_K.moved hW.alike hK, hDc.weaken (fun _ _ _ _ => trivial)⟩⟩ rfl rfl hl.1 rfl (lv_room (Nat.le_of_ble_eq_true rfl)) dX7_reachBy_66 ⟨Nat.le_of_ble_eq_true rfl, Nat.le_of_ble_eq_true rfl⟩) hS (fun q _ h => hFc q h) hFc (fun r_17 u t H1 locs ht hvm hw hB hz1 hk1 hS => ?_)
              obtain ⟨hP1, hK1, hD1⟩ := hB
              rw [ht] at hP1
              obtain ⟨hP, hD⟩ := va_join (wr := [(fA, .inl (cI, 576, (.inl ga))), (fQ, .inl (cI, 576, (.inl gq))), (fR, .inl (cI, 576, (.inl gr)))]) (w1 := [(xSta, .inr (7, [.int (-1), .ref fL, .ref fS, .ref fP, .ref fT, .ref fA, .ref fQ, .ref fR, .int (nI P.length), .ref fN])), (fS, .inl (cI, 3, (.inl fs)))]) hP hD [0, 1] [2, 3, 4] rfl rfl (by decide) (by decide) hk1 hFc hP1 hD1
              generalize H1 = H at hP hS ⊢
              have hP : va_P (dC, dI) vwCl [(fA, .inl (cI, 576, (.inl ga))), (fQ, .inl (cI, 576, (.inl gq))), (fR, .inl (cI, 576, (.inl gr))), (xSta, .inr (7, [.int (-1), .ref fL, .ref fS, .ref fP, .ref fT, .ref fA, .ref fQ, .ref fR, .int (nI P.length), .ref fN])), (fS, .inl (cI, 3, (.inl fs)))] H := hP
              have hD : va_D A [(fA, .inl (cI, 576, (.inl ga))), (fQ, .inl (cI, 576, (.inl gq))), (fR, .inl (cI, 576, (.inl gr))), (xSta, .inr (7, [.int (-1), .ref fL, .ref fS, .ref fP, .ref fT, .ref fA, .ref fQ, .ref fR, .int (nI P.length), .ref fN])), (fS, .inl (cI, 3, (.inl fs)))] := hD
              obtain rfl : r_17 = nI (u0 / n * (n - 1)) := hw
              refine lv_istore (lv' := [(5, .int (nI (u0 / n * (n - 1)))), (0, .ref xSta), (1, .int (nI q)), (2, .int 0), (3, .int 1), (4, .int (nI n))]) hx hb dX7_reachBy_69 hl (by decide) rfl (fun ls hl => ?_)
              refine lv_aload_n hx hb dX7_reachBy_71 rfl (lv_at hl 1 rfl) ?_
              refine lv_iconst (v := 1) hx hb dX7_reachBy_72 (by decide) ?_
              refine lv_iload_n hx hb dX7_reachBy_73 rfl (lv_at hl 3 rfl) ?_
              refine lv_iload_n hx hb dX7_reachBy_74 rfl (lv_at hl 4 rfl) ?_
              refine lv_iload hx hb dX7_reachBy_75 (lv_at hl 5 rfl) ?_
              have hPc := hP.sub (ws' := [(xSta, .inr (7, [.int (-1), .ref fL, .ref fS, .ref fP, .ref fT, .ref fA, .ref fQ, .ref fR, .int (nI P.length), .ref fN])), (fS, .inl (cI, 3, (.inl fs)))]) [3, 4] rfl
              have hDc := hD.sub (ws' := [(xSta, .inr (7, [.int (-1), .ref fL, .ref fS, .ref fP, .ref fT, .ref fA, .ref fQ, .ref fR, .int (nI P.length), .ref fN])), (fS, .inl (cI, 3, (.inl fs)))]) [3, 4] (by decide) rfl
              have hFc := va_free (wc := [(xSta, .inr (7, [.int (-1), .ref fL, .ref fS, .ref fP, .ref fT, .ref fA, .ref fQ, .ref fR, .int (nI P.length), .ref fN])), (fS, .inl (cI, 3, (.inl fs)))]) hD hS hA [3, 4] rfl
              refine va_calli (va_runV (As := [.int 1, .int 0, .int 1, .int (nI n)]) (rest := []) ⟨hx, hb, hml, hown, hts⟩ (c_X7_sideThen_101 l dC dI cB cI cJ H.size xSta fL fS fP fT fA fQ fR fN (nI P.length) fs u1 n hs.2.1 (by omega) (by omega)) (cwV 4 hts gX7_reachBy_X7_sideThen rfl rfl rfl (by decide +kernel) ⟨Nat.le_of_ble_eq_true rfl, Nat.le_of_ble_eq_true rfl⟩) ⟨fun a U g mk q => by obtain ⟨q0, q1, qP, qK, qD⟩ := q; exact ⟨q0, q1, qP, va_K.moved (u := U) (U := U.calling g mk a) (Vm.Alike.refl U.vm) qK, qD⟩, va_recv hK hP (ci := 7) (q0 := 3) rfl rfl, fun U hU hW => ⟨rfl, by rw [hU], by rw [hU]; exact hPc, va_K.moved hW.alike hK, hDc.weaken (fun _ _ _ _ => trivial)⟩⟩ rfl rfl hl.1 rfl (lv_room (Nat.le_of_ble_eq_true rfl)) dX7_reachBy_77 ⟨Nat.le_of_ble_eq_true rfl, Nat.le_of_ble_eq_true rfl⟩) hS (fun q _ h => hFc q h) hFc (fun r_18 u t H1 locs ht hvm hw hB hz1 hk1 hS => ?_)
              obtain ⟨hP1, hK1, hD1⟩ := hB
              rw [ht] at hP1
              obtain ⟨hP, hD⟩ := va_join (wr := [(fA, .inl (cI, 576, (.inl ga))), (fQ, .inl (cI, 576, (.inl gq))), (fR, .inl (cI, 576, (.inl gr)))]) (w1 := [(xSta, .inr (7, [.int (-1), .ref fL, .ref fS, .ref fP, .ref fT, .ref fA, .ref fQ, .ref fR, .int (nI P.length), .ref fN])), (fS, .inl (cI, 3, (.inl fs)))]) hP hD [3, 4] [0, 1, 2] rfl rfl (by decide) (by decide) hk1 hFc hP1 hD1
              generalize H1 = H at hP hS ⊢
              have hP : va_P (dC, dI) vwCl [(fA, .inl (cI, 576, (.inl ga))), (fQ, .inl (cI, 576, (.inl gq))), (fR, .inl (cI, 576, (.inl gr))), (xSta, .inr (7, [.int (-1), .ref fL, .ref fS, .ref fP, .ref fT, .ref fA, .ref fQ, .ref fR, .int (nI P.length), .ref fN])), (fS, .inl (cI, 3, (.inl fs)))] H := hP
              have hD : va_D A [(fA, .inl (cI, 576, (.inl ga))), (fQ, .inl (cI, 576, (.inl gq))), (fR, .inl (cI, 576, (.inl gr))), (xSta, .inr (7, [.int (-1), .ref fL, .ref fS, .ref fP, .ref fT, .ref fA, .ref fQ, .ref fR, .int (nI P.length), .ref fN])), (fS, .inl (cI, 3, (.inl fs)))] := hD
              obtain rfl : r_18 = nI (u1 / (n - 1) * n) := hw
              refine lv_istore (lv' := [(6, .int (nI (u1 / (n - 1) * n))), (5, .int (nI (u0 / n * (n - 1)))), (0, .ref xSta), (1, .int (nI q)), (2, .int 0), (3, .int 1), (4, .int (nI n))]) hx hb dX7_reachBy_80 hl (by decide) rfl (fun ls hl => ?_)
              refine lv_iload hx hb dX7_reachBy_82 (lv_at hl 1 rfl) ?_
              refine lv_iload hx hb dX7_reachBy_84 (lv_at hl 0 rfl) ?_
              have hPc := hP.sub (ws' := []) [] rfl
              have hDc := hD.sub (ws' := []) [] (by decide) rfl
              have hFc := va_free (wc := []) hD hS hA [] rfl
              refine va_calli (va_runS (As := [.int (nI (u0 / n * (n - 1))), .int (nI (u1 / (n - 1) * n))]) (rest := []) ⟨hx, hb, hml, hown, hts⟩ (c_X7_boxOf l dC dI cB cI cJ H.size (u0 / n * (n - 1)) (u1 / (n - 1) * n) (by omega) (by omega)) (va_cwS 2 hts gX7_reachBy_X7_boxOf rfl rfl rfl (by decide +kernel) ⟨Nat.le_of_ble_eq_true rfl, Nat.le_of_ble_eq_true rfl⟩) ⟨fun a U g mk q => by obtain ⟨q0, q1, qP, qK, qD⟩ := q; exact ⟨q0, q1, qP, va_K.moved (u := U) (U := U.calling g mk a) (Vm.Alike.refl U.vm) qK, qD⟩, fun U hU hW => ⟨rfl, by rw [hU], by rw [hU]; exact hPc, va_K.moved hW.alike hK, hDc.weaken (fun _ _ _ _ => trivial)⟩⟩ rfl rfl hl.1 rfl (lv_room (Nat.le_of_ble_eq_true rfl)) dX7_reachBy_86 ⟨Nat.le_of_ble_eq_true rfl, Nat.le_of_ble_eq_true rfl⟩) hS (fun q _ h => hFc q h) hFc (fun r_19 u t H1 locs ht hvm hw hB hz1 hk1 hS => ?_)
              have hP1 : va_P (dC, dI) vwCl [] H1 := fun k q h => by simp at h
              have hD1 : va_D (va_A [] H.size) [] := ⟨fun i j p q h => by simp at h, fun k q h => by simp at h⟩
              obtain ⟨hP, hD⟩ := va_join (wr := [(fA, .inl (cI, 576, (.inl ga))), (fQ, .inl (cI, 576, (.inl gq))), (fR, .inl (cI, 576, (.inl gr))), (xSta, .inr (7, [.int (-1), .ref fL, .ref fS, .ref fP, .ref fT, .ref fA, .ref fQ, .ref fR, .int (nI P.length), .ref fN])), (fS, .inl (cI, 3, (.inl fs)))]) (w1 := []) hP hD [] [0, 1, 2, 3, 4] rfl rfl (by decide) (by decide) hk1 hFc hP1 hD1
              generalize H1 = H at hP hS ⊢
              have hP : va_P (dC, dI) vwCl [(fA, .inl (cI, 576, (.inl ga))), (fQ, .inl (cI, 576, (.inl gq))), (fR, .inl (cI, 576, (.inl gr))), (xSta, .inr (7, [.int (-1), .ref fL, .ref fS, .ref fP, .ref fT, .ref fA, .ref fQ, .ref fR, .int (nI P.length), .ref fN])), (fS, .inl (cI, 3, (.inl fs)))] H := hP
              have hD : va_D A [(fA, .inl (cI, 576, (.inl ga))), (fQ, .inl (cI, 576, (.inl gq))), (fR, .inl (cI, 576, (.inl gr))), (xSta, .inr (7, [.int (-1), .ref fL, .ref fS, .ref fP, .ref fT, .ref fA, .ref fQ, .ref fR, .int (nI P.length), .ref fN])), (fS, .inl (cI, 3, (.inl fs)))] := hD
              obtain rfl : r_19 = nI ((u0 / n * (n - 1) - 1) * 24 + (u1 / (n - 1) * n - 1)) := hw
              have hcd : ((u0 / n * (n - 1)) - 1) * 24 + ((u1 / (n - 1) * n) - 1) = bx_cd (st_go u0 u1 u2 0 1 n) := (bx_cd_mk (x := u0 / n * (n - 1)) (y := u1 / (n - 1) * n) (z := u2) (by omega) (by omega)).symm
              rw [hcd]
              have hlt := bx_cd_lt hgo
              refine lv_istore (lv' := [(7, .int (nI (bx_cd (st_go u0 u1 u2 0 1 n)))), (6, .int (nI (u1 / (n - 1) * n))), (5, .int (nI (u0 / n * (n - 1)))), (0, .ref xSta), (1, .int (nI q)), (2, .int 0), (3, .int 1), (4, .int (nI n))]) hx hb dX7_reachBy_89 hl (by decide) rfl (fun ls hl => ?_)
              refine lv_aload_n hx hb dX7_reachBy_91 rfl (lv_at hl 3 rfl) ?_
              refine va_get (D := (dC, dI)) (ci := 7) (v := .ref fA) (C := RX7) (T := TX7) (N := 10) hx hb hts hiX7 hown hK hP 3 rfl rfl 5 (by decide) (hts (.fieldLink RX7 28 "ScissorsTable$Stairs" "ahead" "[I") (by decide +kernel)) (fun _ h9 => h9) rfl dX7_reachBy_92 ?_
              refine lv_iload hx hb dX7_reachBy_95 (lv_at hl 0 rfl) ?_
              refine va_iald hx hb hK hP 0 1 rfl rfl (vp_in_nI (by omega) (by decide)) dX7_reachBy_97 ?_
              refine lv_topi (fun x_20 ex_20 => ?_)
              rw [nI_clamp (show bx_cd (st_go u0 u1 u2 0 1 n) < 2 ^ 31 by omega)] at ex_20
              refine lv_iconst (v := (-1)) hx hb dX7_reachBy_98 (by decide) ?_
              refine lv_icmp_ne (tgt := 159) hx hb dX7_reachBy_99 (by decide) (fun c_21 => ?_) (fun c_21 => ?_)
              · have hh : q_has P (st_go u0 u1 u2 0 1 n) = true := RC_yes hPR hPI hgo (fun q9 => c_21 (ex_20.trans q9))
                rw [q_see_yes hh] at hPT
                obtain ⟨x_22, ex_22⟩ : ∃ y : Int32, y = (nI n) + 1 := ⟨_, rfl⟩
                refine lv_iinc (v := x_22) (lv' := [(4, .int x_22), (7, .int (nI (bx_cd (st_go u0 u1 u2 0 1 n)))), (6, .int (nI (u1 / (n - 1) * n))), (5, .int (nI (u0 / n * (n - 1)))), (0, .ref xSta), (1, .int (nI q)), (2, .int 0), (3, .int 1)]) hx hb dX7_reachBy_159 hl (k := 7) rfl (by rw [ex_22]; rfl) (by decide) rfl (fun ls hl => ?_)
                obtain rfl : x_22 = nI (n + 1) := ex_22.trans (nI_1 n)
                have hl : lv_has ls 8 [(4, .int (nI (n + 1))), (7, .int (nI (bx_cd (st_go u0 u1 u2 0 1 n)))), (6, .int (nI (u1 / (n - 1) * n))), (5, .int (nI (u0 / n * (n - 1)))), (0, .ref xSta), (1, .int (nI q)), (2, .int 0), (3, .int 1)] := hl
                refine lv_goto (tgt := 3) hx hb dX7_reachBy_162 (by decide) ?_
                exact out _ _ _ (ih (n + 1) P ga gq gr (by omega) (by omega) (by omega) hP0 hPI hPR hPT _ _ (hP.sub [3, 4, 0, 1, 2] rfl) (hD.sub [3, 4, 0, 1, 2] (by decide) rfl) hS ls (lv_sub hl [4, 5, 6, 7, 0] rfl))
              · have hh : q_has P (st_go u0 u1 u2 0 1 n) = false := RC_no hPR hPI hgo (ex_20.symm.trans c_21)
                rw [q_see_no hh] at hPT
                have hPl2 : P.length < 576 := by
                  have h9 := Nat.le_trans (q_pre_len (hPT ▸ q_sees_pre k (d + 1) (nb_n u0 u1 u2 0 1 (25 - (n + 1)) (n + 1)) _)) hTl
                  rw [List.length_append] at h9
                  exact h9
                refine lv_aload_n hx hb dX7_reachBy_102 rfl (lv_at hl 3 rfl) ?_
                refine va_get (D := (dC, dI)) (ci := 7) (v := .int (nI P.length)) (C := RX7) (T := TX7) (N := 10) hx hb hts hiX7 hown hK hP 3 rfl rfl 8 (by decide) (hts (.fieldLink RX7 55 "ScissorsTable$Stairs" "queued" "I") (by decide +kernel)) (fun _ h9 => h9) rfl dX7_reachBy_103 ?_
                refine lv_sipush (v := 576) hx hb dX7_reachBy_106 (by decide) ?_
                refine lv_icmp_ge (tgt := 159) hx hb dX7_reachBy_109 (by decide) (fun c_23 => ?_) (fun c_23 => ?_)
                · have c_23 : 576 ≤ P.length := (nI_leI (a := 576) (b := P.length) (by omega) (by omega)).mp c_23
                  exfalso
                  omega
                · have c_23 : ¬ 576 ≤ P.length := fun q9 => c_23 ((nI_leI (a := 576) (b := P.length) (by omega) (by omega)).mpr q9)
                  refine lv_aload_n hx hb dX7_reachBy_112 rfl (lv_at hl 3 rfl) ?_
                  refine va_get (D := (dC, dI)) (ci := 7) (v := .ref fA) (C := RX7) (T := TX7) (N := 10) hx hb hts hiX7 hown hK hP 3 rfl rfl 5 (by decide) (hts (.fieldLink RX7 28 "ScissorsTable$Stairs" "ahead" "[I") (by decide +kernel)) (fun _ h9 => h9) rfl dX7_reachBy_113 ?_
                  refine lv_iload hx hb dX7_reachBy_116 (lv_at hl 0 rfl) ?_
                  refine lv_iload_n hx hb dX7_reachBy_118 rfl (lv_at hl 4 rfl) ?_
                  refine va_iast hx hb hK hP hD hS 0 1 rfl rfl (vp_in_nI (by omega) (by decide)) dX7_reachBy_119 (fun H locs hP hD hS => ?_)
                  rw [nI_clamp (show bx_cd (st_go u0 u1 u2 0 1 n) < 2 ^ 31 by omega)] at hP hD
                  have hP : va_P (dC, dI) vwCl [(fA, .inl (cI, 576, (.inl (upd ga (bx_cd (st_go u0 u1 u2 0 1 n)) (nI q))))), (fQ, .inl (cI, 576, (.inl gq))), (fR, .inl (cI, 576, (.inl gr))), (xSta, .inr (7, [.int (-1), .ref fL, .ref fS, .ref fP, .ref fT, .ref fA, .ref fQ, .ref fR, .int (nI P.length), .ref fN])), (fS, .inl (cI, 3, (.inl fs)))] H := hP
                  have hD : va_D A [(fA, .inl (cI, 576, (.inl (upd ga (bx_cd (st_go u0 u1 u2 0 1 n)) (nI q))))), (fQ, .inl (cI, 576, (.inl gq))), (fR, .inl (cI, 576, (.inl gr))), (xSta, .inr (7, [.int (-1), .ref fL, .ref fS, .ref fP, .ref fT, .ref fA, .ref fQ, .ref fR, .int (nI P.length), .ref fN])), (fS, .inl (cI, 3, (.inl fs)))] := hD
                  refine lv_aload_n hx hb dX7_reachBy_120 rfl (lv_at hl 3 rfl) ?_
                  refine va_get (D := (dC, dI)) (ci := 7) (v := .ref fR) (C := RX7) (T := TX7) (N := 10) hx hb hts hiX7 hown hK hP 3 rfl rfl 7 (by decide) (hts (.fieldLink RX7 34 "ScissorsTable$Stairs" "reached" "[I") (by decide +kernel)) (fun _ h9 => h9) rfl dX7_reachBy_121 ?_
                  refine lv_iload hx hb dX7_reachBy_124 (lv_at hl 0 rfl) ?_
                  refine lv_iload_n hx hb dX7_reachBy_126 rfl (lv_at hl 5 rfl) ?_
                  refine lv_iconst (v := 3) hx hb dX7_reachBy_127 (by decide) ?_
                  refine lv_imul hx hb dX7_reachBy_128 ?_
                  refine lv_topi (fun x_24 ex_24 => ?_)
                  obtain rfl : x_24 = 0 := ex_24.trans (by first | rfl | decide)
                  refine lv_iload_n hx hb dX7_reachBy_129 rfl (lv_at hl 6 rfl) ?_
                  refine lv_iadd hx hb dX7_reachBy_130 ?_
                  refine lv_topi (fun x_25 ex_25 => ?_)
                  obtain rfl : x_25 = 1 := ex_25.trans (by first | rfl | decide)
                  refine lv_bipush (v := 25) hx hb dX7_reachBy_131 (by decide) ?_
                  refine lv_imul hx hb dX7_reachBy_133 ?_
                  refine lv_topi (fun x_26 ex_26 => ?_)
                  obtain rfl : x_26 = 25 := ex_26.trans (by first | rfl | decide)
                  refine lv_iload hx hb dX7_reachBy_134 (lv_at hl 7 rfl) ?_
                  refine lv_iadd hx hb dX7_reachBy_136 ?_
                  refine lv_topi (fun x_27 ex_27 => ?_)
                  obtain rfl : x_27 = nI (25 + n) := ex_27.trans (nI_add 25 n)
                  refine va_iast hx hb hK hP hD hS 2 1 rfl rfl (vp_in_nI (by omega) (by decide)) dX7_reachBy_137 (fun H locs hP hD hS => ?_)
                  rw [nI_clamp (show bx_cd (st_go u0 u1 u2 0 1 n) < 2 ^ 31 by omega)] at hP hD
                  have hP : va_P (dC, dI) vwCl [(fA, .inl (cI, 576, (.inl (upd ga (bx_cd (st_go u0 u1 u2 0 1 n)) (nI q))))), (fQ, .inl (cI, 576, (.inl gq))), (fR, .inl (cI, 576, (.inl (upd gr (bx_cd (st_go u0 u1 u2 0 1 n)) (nI (25 + n)))))), (xSta, .inr (7, [.int (-1), .ref fL, .ref fS, .ref fP, .ref fT, .ref fA, .ref fQ, .ref fR, .int (nI P.length), .ref fN])), (fS, .inl (cI, 3, (.inl fs)))] H := hP
                  have hD : va_D A [(fA, .inl (cI, 576, (.inl (upd ga (bx_cd (st_go u0 u1 u2 0 1 n)) (nI q))))), (fQ, .inl (cI, 576, (.inl gq))), (fR, .inl (cI, 576, (.inl (upd gr (bx_cd (st_go u0 u1 u2 0 1 n)) (nI (25 + n)))))), (xSta, .inr (7, [.int (-1), .ref fL, .ref fS, .ref fP, .ref fT, .ref fA, .ref fQ, .ref fR, .int (nI P.length), .ref fN])), (fS, .inl (cI, 3, (.inl fs)))] := hD
                  refine lv_aload_n hx hb dX7_reachBy_138 rfl (lv_at hl 3 rfl) ?_
                  refine va_get (D := (dC, dI)) (ci := 7) (v := .ref fQ) (C := RX7) (T := TX7) (N := 10) hx hb hts hiX7 hown hK hP 3 rfl rfl 6 (by decide) (hts (.fieldLink RX7 31 "ScissorsTable$Stairs" "queue" "[I") (by decide +kernel)) (fun _ h9 => h9) rfl dX7_reachBy_139 ?_
                  refine lv_aload_n hx hb dX7_reachBy_142 rfl (lv_at hl 3 rfl) ?_
                  refine va_get (D := (dC, dI)) (ci := 7) (v := .int (nI P.length)) (C := RX7) (T := TX7) (N := 10) hx hb hts hiX7 hown hK hP 3 rfl rfl 8 (by decide) (hts (.fieldLink RX7 55 "ScissorsTable$Stairs" "queued" "I") (by decide +kernel)) (fun _ h9 => h9) rfl dX7_reachBy_143 ?_
                  refine lv_iload hx hb dX7_reachBy_146 (lv_at hl 0 rfl) ?_
                  refine va_iast hx hb hK hP hD hS 1 1 rfl rfl (vp_in_nI (by omega) (by decide)) dX7_reachBy_148 (fun H locs hP hD hS => ?_)
                  rw [nI_clamp (show P.length < 2 ^ 31 by omega)] at hP hD
                  have hP : va_P (dC, dI) vwCl [(fA, .inl (cI, 576, (.inl (upd ga (bx_cd (st_go u0 u1 u2 0 1 n)) (nI q))))), (fQ, .inl (cI, 576, (.inl (upd gq P.length (nI (bx_cd (st_go u0 u1 u2 0 1 n))))))), (fR, .inl (cI, 576, (.inl (upd gr (bx_cd (st_go u0 u1 u2 0 1 n)) (nI (25 + n)))))), (xSta, .inr (7, [.int (-1), .ref fL, .ref fS, .ref fP, .ref fT, .ref fA, .ref fQ, .ref fR, .int (nI P.length), .ref fN])), (fS, .inl (cI, 3, (.inl fs)))] H := hP
                  have hD : va_D A [(fA, .inl (cI, 576, (.inl (upd ga (bx_cd (st_go u0 u1 u2 0 1 n)) (nI q))))), (fQ, .inl (cI, 576, (.inl (upd gq P.length (nI (bx_cd (st_go u0 u1 u2 0 1 n))))))), (fR, .inl (cI, 576, (.inl (upd gr (bx_cd (st_go u0 u1 u2 0 1 n)) (nI (25 + n)))))), (xSta, .inr (7, [.int (-1), .ref fL, .ref fS, .ref fP, .ref fT, .ref fA, .ref fQ, .ref fR, .int (nI P.length), .ref fN])), (fS, .inl (cI, 3, (.inl fs)))] := hD
                  refine lv_aload_n hx hb dX7_reachBy_149 rfl (lv_at hl 3 rfl) ?_
                  refine lv_dup hx hb dX7_reachBy_150 rfl ?_
                  refine va_get (D := (dC, dI)) (ci := 7) (v := .int (nI P.length)) (C := RX7) (T := TX7) (N := 10) hx hb hts hiX7 hown hK hP 3 rfl rfl 8 (by decide) (hts (.fieldLink RX7 55 "ScissorsTable$Stairs" "queued" "I") (by decide +kernel)) (fun _ h9 => h9) rfl dX7_reachBy_151 ?_
                  refine lv_iconst (v := 1) hx hb dX7_reachBy_154 (by decide) ?_
                  refine lv_iadd hx hb dX7_reachBy_155 ?_
                  refine lv_topi (fun x_28 ex_28 => ?_)
                  obtain rfl : x_28 = nI (P.length + 1) := ex_28.trans (nI_add P.length 1)
                  rw [show nI (P.length + 1) = nI (P ++ [(st_go u0 u1 u2 0 1 n, k, d + 1)]).length from congrArg nI nk_len]
                  refine va_put (D := (dC, dI)) (ci := 7) (v := .int (nI (P ++ [(st_go u0 u1 u2 0 1 n, k, d + 1)]).length)) (ty := .int) (C := RX7) (T := TX7) (N := 10) hx hb hts hiX7 tyX7 tyX7_ok nmX7 hown hK hP hD hS 3 rfl rfl 8 (by decide) (hts (.fieldLink RX7 55 "ScissorsTable$Stairs" "queued" "I") (by decide +kernel)) (fun _ h9 => h9) rfl (by decide +kernel) rfl rfl (Nat.le_of_ble_eq_true rfl) dX7_reachBy_156 (fun H locs hP hD hS => ?_)
                  have hP : va_P (dC, dI) vwCl [(fA, .inl (cI, 576, (.inl (upd ga (bx_cd (st_go u0 u1 u2 0 1 n)) (nI q))))), (fQ, .inl (cI, 576, (.inl (upd gq P.length (nI (bx_cd (st_go u0 u1 u2 0 1 n))))))), (fR, .inl (cI, 576, (.inl (upd gr (bx_cd (st_go u0 u1 u2 0 1 n)) (nI (25 + n)))))), (xSta, .inr (7, [.int (-1), .ref fL, .ref fS, .ref fP, .ref fT, .ref fA, .ref fQ, .ref fR, .int (nI (P ++ [(st_go u0 u1 u2 0 1 n, k, d + 1)]).length), .ref fN])), (fS, .inl (cI, 3, (.inl fs)))] H := hP
                  have hD : va_D A [(fA, .inl (cI, 576, (.inl (upd ga (bx_cd (st_go u0 u1 u2 0 1 n)) (nI q))))), (fQ, .inl (cI, 576, (.inl (upd gq P.length (nI (bx_cd (st_go u0 u1 u2 0 1 n))))))), (fR, .inl (cI, 576, (.inl (upd gr (bx_cd (st_go u0 u1 u2 0 1 n)) (nI (25 + n)))))), (xSta, .inr (7, [.int (-1), .ref fL, .ref fS, .ref fP, .ref fT, .ref fA, .ref fQ, .ref fR, .int (nI (P ++ [(st_go u0 u1 u2 0 1 n, k, d + 1)]).length), .ref fN])), (fS, .inl (cI, 3, (.inl fs)))] := hD
                  obtain ⟨x_29, ex_29⟩ : ∃ y : Int32, y = (nI n) + 1 := ⟨_, rfl⟩
                  refine lv_iinc (v := x_29) (lv' := [(4, .int x_29), (7, .int (nI (bx_cd (st_go u0 u1 u2 0 1 n)))), (6, .int (nI (u1 / (n - 1) * n))), (5, .int (nI (u0 / n * (n - 1)))), (0, .ref xSta), (1, .int (nI q)), (2, .int 0), (3, .int 1)]) hx hb dX7_reachBy_159 hl (k := 7) rfl (by rw [ex_29]; rfl) (by decide) rfl (fun ls hl => ?_)
                  obtain rfl : x_29 = nI (n + 1) := ex_29.trans (nI_1 n)
                  have hl : lv_has ls 8 [(4, .int (nI (n + 1))), (7, .int (nI (bx_cd (st_go u0 u1 u2 0 1 n)))), (6, .int (nI (u1 / (n - 1) * n))), (5, .int (nI (u0 / n * (n - 1)))), (0, .ref xSta), (1, .int (nI q)), (2, .int 0), (3, .int 1)] := hl
                  refine lv_goto (tgt := 3) hx hb dX7_reachBy_162 (by decide) ?_
                  exact out _ _ _ (ih (n + 1) _ _ _ _ (by omega) (by omega) (by omega) (q_app_old hP0) (by have h9 := q_in_add (k := k) (d := d + 1) hPI hgo; rw [q_see_no hh] at h9; exact h9) (by have h9 := RC_add (d := d + 1) hPR hPI hP0 hgo hh; have h8 : bx_cd ((bx_mk u0 u1 u2, pk, d) : qE).1 = q := hq.symm; rw [h8] at h9; exact h9) hPT _ _ (hP.sub [3, 4, 0, 1, 2] rfl) (hD.sub [3, 4, 0, 1, 2] (by decide) rfl) hS ls (lv_sub hl [4, 5, 6, 7, 0] rfl))
  exact loop 24 2 Q fa fq fr rfl (by omega) (by omega) hk hI hR hT _ _ (hP.sub [0, 1, 2, 3, 4] rfl) (hD.sub [0, 1, 2, 3, 4] (by decide) rfl) hS ls (lv_sub hl [1, 2, 3, 4, 0] rfl)
set_option maxHeartbeats 4000000 in
set_option maxRecDepth 100000 in
theorem c_X7_reachBy_02 (l : Launch) (dC : Nat → ClassId) (dI : Nat → Nat → Nat) (cB cI cJ : ClassId) (sz : Nat) (xSta fL fS fP fT fA fQ fR fN : Nat) (Q T : List qE) (fs fa fq fr : Nat → Int32) (V u0 u1 u2 q k pk d : Nat) (hu : (1 ≤ u0 ∧ u0 ≤ 24) ∧ (1 ≤ u1 ∧ u1 ≤ 24) ∧ (1 ≤ u2 ∧ u2 ≤ 24)) (hV : u0 * u1 * u2 = V) (hs : fs 0 = nI u0 ∧ fs 1 = nI u1 ∧ fs 2 = nI u2) (hq : q = bx_cd (bx_mk u0 u1 u2)) (hk : Q[k]? = some (bx_mk u0 u1 u2, pk, d)) (hI : q_in V Q) (hR : RC Q fa fq) (hT : q_sees k (d + 1) (nb_n u0 u1 u2 0 2 23 2) Q = T) (hTl : T.length ≤ 576) : Met l yX7_reachBy wsX7_reachBy ({ frames := 2, cells := 0, slots := 0, locals := 48 }) (va_Pc [.ref xSta, .int (nI q), .int 0, .int 2] (fun U => U.heap.size = sz ∧ va_P (dC, dI) vwCl [(xSta, .inr (7, [.int (-1), .ref fL, .ref fS, .ref fP, .ref fT, .ref fA, .ref fQ, .ref fR, .int (nI Q.length), .ref fN])), (fS, .inl (cI, 3, (.inl fs))), (fA, .inl (cI, 576, (.inl fa))), (fQ, .inl (cI, 576, (.inl fq))), (fR, .inl (cI, 576, (.inl fr)))] U.heap ∧ va_K (dC, dI) vwCl [(cB, .byte), (cI, .int), (cJ, .long)] U ∧ va_D (fun _ => True) [(xSta, .inr (7, [.int (-1), .ref fL, .ref fS, .ref fP, .ref fT, .ref fA, .ref fQ, .ref fR, .int (nI Q.length), .ref fN])), (fS, .inl (cI, 3, (.inl fs))), (fA, .inl (cI, 576, (.inl fa))), (fQ, .inl (cI, 576, (.inl fq))), (fR, .inl (cI, 576, (.inl fr)))])) (va_Qv (fun _ : Unit => True) (fun _ t => ∃ fz : Nat → Int32, ∃ fy : Nat → Int32, ∃ fw : Nat → Int32, RC T fz fy ∧ va_P (dC, dI) vwCl [(xSta, .inr (7, [.int (-1), .ref fL, .ref fS, .ref fP, .ref fT, .ref fA, .ref fQ, .ref fR, .int (nI T.length), .ref fN])), (fS, .inl (cI, 3, (.inl fs))), (fA, .inl (cI, 576, (.inl fz))), (fQ, .inl (cI, 576, (.inl fy))), (fR, .inl (cI, 576, (.inl fw)))] t.heap ∧ va_K (dC, dI) vwCl [(cB, .byte), (cI, .int), (cJ, .long)] t ∧ va_D (va_A [(xSta, .inr (7, [.int (-1), .ref fL, .ref fS, .ref fP, .ref fT, .ref fA, .ref fQ, .ref fR, .int (nI Q.length), .ref fN])), (fS, .inl (cI, 3, (.inl fs))), (fA, .inl (cI, 576, (.inl fa))), (fQ, .inl (cI, 576, (.inl fq))), (fR, .inl (cI, 576, (.inl fr)))] sz) [(xSta, .inr (7, [.int (-1), .ref fL, .ref fS, .ref fP, .ref fT, .ref fA, .ref fQ, .ref fR, .int (nI T.length), .ref fN])), (fS, .inl (cI, 3, (.inl fs))), (fA, .inl (cI, 576, (.inl fz))), (fQ, .inl (cI, 576, (.inl fy))), (fR, .inl (cI, 576, (.inl fw)))]) (va_A [(xSta, .inr (7, [.int (-1), .ref fL, .ref fS, .ref fP, .ref fT, .ref fA, .ref fQ, .ref fR, .int (nI Q.length), .ref fN])), (fS, .inl (cI, 3, (.inl fs))), (fA, .inl (cI, 576, (.inl fa))), (fQ, .inl (cI, 576, (.inl fq))), (fR, .inl (cI, 576, (.inl fr)))] sz)) 0 0 (va_A [(xSta, .inr (7, [.int (-1), .ref fL, .ref fS, .ref fP, .ref fT, .ref fA, .ref fQ, .ref fR, .int (nI Q.length), .ref fN])), (fS, .inl (cI, 3, (.inl fs))), (fA, .inl (cI, 576, (.inl fa))), (fQ, .inl (cI, 576, (.inl fq))), (fR, .inl (cI, 576, (.inl fr)))] sz) := by
  refine Met.ofW (cc := cX7_reachBy) (maxL := 8) (ret := none) (by decide) rfl ?_
  intro p e s m args below meth c s₁ B hml hv
  obtain ⟨rfl, hsz, hP, hK, hD0⟩ := hv
  have hx := B.exec
  have hb := B.bytes
  have hr := B.returns
  have hts := atoms_spec (ws := wsX7_reachBy) B.pre
  have hown : s.vm.findClass RX7 = some m.cls := findClass_of_methodNamed B.named
  have hlocks := B.notSynchronized
  have hiX7 : ∀ w ∈ u_ws RX7 TX7 10, w ∈ wsX7_reachBy := by decide +kernel
  subst hsz
  have hD := hD0.self (sz := s.heap.size)
  generalize hAe : va_A [(xSta, .inr (7, [.int (-1), .ref fL, .ref fS, .ref fP, .ref fT, .ref fA, .ref fQ, .ref fR, .int (nI Q.length), .ref fN])), (fS, .inl (cI, 3, (.inl fs))), (fA, .inl (cI, 576, (.inl fa))), (fQ, .inl (cI, 576, (.inl fq))), (fR, .inl (cI, 576, (.inl fr)))] s.heap.size = A at hD ⊢
  have hA : ∀ q : Nat, s.heap.size ≤ q → A q := fun q h => by rw [← hAe]; exact Or.inr h
  have hS : va_S A s.heap s.heap [] := va_S.rf
  have hP : va_P (dC, dI) vwCl [(xSta, .inr (7, [.int (-1), .ref fL, .ref fS, .ref fP, .ref fT, .ref fA, .ref fQ, .ref fR, .int (nI Q.length), .ref fN])), (fS, .inl (cI, 3, (.inl fs))), (fA, .inl (cI, 576, (.inl fa))), (fQ, .inl (cI, 576, (.inl fq))), (fR, .inl (cI, 576, (.inl fr)))] s.heap := hP
  have hl := lv_entry ([.ref xSta, .int (nI q), .int 0, .int 2]) (n := 8) (Nat.le_of_ble_eq_true rfl)
  rw [lg_entry_eq]
  generalize (lg_sl ([.ref xSta, .int (nI q), .int 0, .int 2]) ++ List.replicate (8 - (lg_sl ([.ref xSta, .int (nI q), .int 0, .int 2])).length) Slot.unset).toArray = ls at hl ⊢
  have hl : lv_has ls 8 [(0, .ref xSta), (1, .int (nI q)), (2, .int 0), (3, .int 2)] := hl
  refine lv_iconst (v := 2) hx hb dX7_reachBy_0 (by decide) ?_
  refine lv_istore (lv' := [(4, .int 2), (0, .ref xSta), (1, .int (nI q)), (2, .int 0), (3, .int 2)]) hx hb dX7_reachBy_1 hl (by decide) rfl (fun ls hl => ?_)
  refine nk_G (fun G inn out => ?_)
  have loop : ∀ (f : Nat) (n : Nat) (P : List qE) (ga : Nat → Int32) (gq : Nat → Int32) (gr : Nat → Int32) (h5 : n + f = 26) (h6 : 2 ≤ n) (h7 : n ≤ 25) (hP0 : P[k]? = some (bx_mk u0 u1 u2, pk, d)) (hPI : q_in V P) (hPR : RC P ga gq) (hPT : q_sees k (d + 1) (nb_n u0 u1 u2 0 2 (25 - n) n) P = T) (H : Heap) (locs : List Loc) (_ : va_P (dC, dI) vwCl [(xSta, .inr (7, [.int (-1), .ref fL, .ref fS, .ref fP, .ref fT, .ref fA, .ref fQ, .ref fR, .int (nI P.length), .ref fN])), (fS, .inl (cI, 3, (.inl fs))), (fA, .inl (cI, 576, (.inl ga))), (fQ, .inl (cI, 576, (.inl gq))), (fR, .inl (cI, 576, (.inl gr)))] H) (_ : va_D A [(xSta, .inr (7, [.int (-1), .ref fL, .ref fS, .ref fP, .ref fT, .ref fA, .ref fQ, .ref fR, .int (nI P.length), .ref fN])), (fS, .inl (cI, 3, (.inl fs))), (fA, .inl (cI, 576, (.inl ga))), (fQ, .inl (cI, 576, (.inl gq))), (fR, .inl (cI, 576, (.inl gr)))]) (_ : va_S A s.heap H locs) (ls : Array Slot) (_ : lv_has ls 8 [(0, .ref xSta), (1, .int (nI q)), (2, .int 0), (3, .int 2), (4, .int (nI n))]), G H locs (F0 m 3 ls []) := by
    intro f
    induction f with
    | zero =>
      intro n P ga gq gr h5 h6 h7 hP0 hPI hPR hPT H locs hP hD hS ls hl
      exfalso; omega
    | succ f ih =>
      intro n P ga gq gr h5 h6 h7 hP0 hPI hPR hPT H locs hP hD hS ls hl
      refine inn _ _ _ ?_
      refine lv_iload hx hb dX7_reachBy_3 (lv_at hl 4 rfl) ?_
      refine lv_bipush (v := 24) hx hb dX7_reachBy_5 (by decide) ?_
      refine lv_icmp_gt (tgt := 165) hx hb dX7_reachBy_7 (by decide) (fun c_1 => ?_) (fun c_1 => ?_)
      · have c_1 : 24 < n := (nI_ltI (a := 24) (b := n) (by omega) (by omega)).mp c_1
        have hPe : P = T := by
          have h9 : 25 - n = 0 := by omega
          rw [h9] at hPT
          exact hPT
        rw [hPe] at hP hD hPR
        have hP : va_P (dC, dI) vwCl [(xSta, .inr (7, [.int (-1), .ref fL, .ref fS, .ref fP, .ref fT, .ref fA, .ref fQ, .ref fR, .int (nI T.length), .ref fN])), (fS, .inl (cI, 3, (.inl fs))), (fA, .inl (cI, 576, (.inl ga))), (fQ, .inl (cI, 576, (.inl gq))), (fR, .inl (cI, 576, (.inl gr)))] H := hP
        have hD : va_D A [(xSta, .inr (7, [.int (-1), .ref fL, .ref fS, .ref fP, .ref fT, .ref fA, .ref fQ, .ref fR, .int (nI T.length), .ref fN])), (fS, .inl (cI, 3, (.inl fs))), (fA, .inl (cI, 576, (.inl ga))), (fQ, .inl (cI, 576, (.inl gq))), (fR, .inl (cI, 576, (.inl gr)))] := hD
        have hP9 := hP.sub (ws' := [(xSta, .inr (7, [.int (-1), .ref fL, .ref fS, .ref fP, .ref fT, .ref fA, .ref fQ, .ref fR, .int (nI T.length), .ref fN])), (fS, .inl (cI, 3, (.inl fs))), (fA, .inl (cI, 576, (.inl ga))), (fQ, .inl (cI, 576, (.inl gq))), (fR, .inl (cI, 576, (.inl gr)))]) [0, 1, 2, 3, 4] rfl
        have hD9 := hD.sub (ws' := [(xSta, .inr (7, [.int (-1), .ref fL, .ref fS, .ref fP, .ref fT, .ref fA, .ref fQ, .ref fR, .int (nI T.length), .ref fN])), (fS, .inl (cI, 3, (.inl fs))), (fA, .inl (cI, 576, (.inl ga))), (fQ, .inl (cI, 576, (.inl gq))), (fR, .inl (cI, 576, (.inl gr)))]) [0, 1, 2, 3, 4] (by decide) rfl
        exact W.vret hx hb hr (fun t ht hW => ⟨⟨(), rfl, trivial, ga, gq, gr, hPR, by rw [ht]; exact hP9, va_K.moved hW.alike hK, hD9⟩, hS.F ht⟩) hS.2.2 dX7_reachBy_165
      · have c_1 : ¬ 24 < n := fun q9 => c_1 ((nI_ltI (a := 24) (b := n) (by omega) (by omega)).mpr q9)
        have hPl : P.length ≤ 576 := Nat.le_trans (q_pre_len (hPT ▸ q_sees_pre k (d + 1) (nb_n u0 u1 u2 0 2 (25 - n) n) P)) hTl
        have hf1 : 25 - n = (25 - (n + 1)) + 1 := by omega
        rw [hf1] at hPT
        have r1 : u0 % n ≤ 24 := Nat.le_trans (Nat.mod_le _ _) (by omega)
        have r2 : u2 % (n - 1) ≤ 24 := Nat.le_trans (Nat.mod_le _ _) (by omega)
        have r3 : u2 / (n - 1) * n ≤ 24 * 24 := Nat.mul_le_mul (Nat.le_trans (Nat.div_le_self _ _) (by omega)) (by omega)
        refine lv_iload_n hx hb dX7_reachBy_10 rfl (lv_at hl 2 rfl) ?_
        refine lv_iload_n hx hb dX7_reachBy_11 rfl (lv_at hl 3 rfl) ?_
        refine lv_icmp_eq (tgt := 165) hx hb dX7_reachBy_12 (by decide) (fun c => absurd c (by decide)) (fun _ => ?_)
        refine lv_aload_n hx hb dX7_reachBy_15 rfl (lv_at hl 0 rfl) ?_
        refine va_get (D := (dC, dI)) (ci := 7) (v := .ref fS) (C := RX7) (T := TX7) (N := 10) hx hb hts hiX7 hown hK hP 0 rfl rfl 2 (by decide) (hts (.fieldLink RX7 19 "ScissorsTable$Stairs" "sides" "[I") (by decide +kernel)) (fun _ h9 => h9) rfl dX7_reachBy_16 ?_
        refine lv_iload_n hx hb dX7_reachBy_19 rfl (lv_at hl 2 rfl) ?_
        refine va_iald hx hb hK hP 1 1 rfl rfl (by show ¬ (_ ∨ _); decide) dX7_reachBy_20 ?_
        refine lv_topi (fun x_2 ex_2 => ?_)
        have ex_2 : x_2 = fs 0 := ex_2
        obtain rfl : x_2 = nI u0 := ex_2.trans hs.1
        refine lv_iload hx hb dX7_reachBy_21 (lv_at hl 4 rfl) ?_
        refine lv_irem hx hb dX7_reachBy_23 (nI_ne0 (by omega) (by omega)) ?_
        refine lv_topi (fun x_3 ex_3 => ?_)
        obtain rfl : x_3 = nI (u0 % n) := ex_3.trans (pk_rem (a := u0) (d := n) (by omega) (by omega) (by omega))
        refine lv_if_ne (tgt := 159) hx hb dX7_reachBy_24 (by decide) (fun c_4 => ?_) (fun c_4 => ?_)
        · have c_4 : ¬ (u0 % n) = 0 := fun q9 => c_4 ((nI_eq (a := u0 % n) (b := 0) (by omega) (by omega)).mpr q9)
          obtain ⟨x_5, ex_5⟩ : ∃ y : Int32, y = (nI n) + 1 := ⟨_, rfl⟩
          refine lv_iinc (v := x_5) (lv' := [(4, .int x_5), (0, .ref xSta), (1, .int (nI q)), (2, .int 0), (3, .int 2)]) hx hb dX7_reachBy_159 hl (k := 4) rfl (by rw [ex_5]; rfl) (by decide) rfl (fun ls hl => ?_)
          obtain rfl : x_5 = nI (n + 1) := ex_5.trans (nI_1 n)
          have hl : lv_has ls 8 [(4, .int (nI (n + 1))), (0, .ref xSta), (1, .int (nI q)), (2, .int 0), (3, .int 2)] := hl
          refine lv_goto (tgt := 3) hx hb dX7_reachBy_162 (by decide) ?_
          exact out _ _ _ (ih (n + 1) P ga gq gr (by omega) (by omega) (by omega) hP0 hPI hPR ((congrArg (fun L9 => q_sees k (d + 1) L9 P) (nb_no (fun h9 => c_4 h9.1))).symm.trans hPT) _ _ (hP.sub [0, 1, 2, 3, 4] rfl) (hD.sub [0, 1, 2, 3, 4] (by decide) rfl) hS ls (lv_sub hl [1, 2, 3, 4, 0] rfl))
        · have c_4 : (u0 % n) = 0 := (nI_eq (a := u0 % n) (b := 0) (by omega) (by omega)).mp c_4
          refine lv_aload_n hx hb dX7_reachBy_27 rfl (lv_at hl 0 rfl) ?_
          refine va_get (D := (dC, dI)) (ci := 7) (v := .ref fS) (C := RX7) (T := TX7) (N := 10) hx hb hts hiX7 hown hK hP 0 rfl rfl 2 (by decide) (hts (.fieldLink RX7 19 "ScissorsTable$Stairs" "sides" "[I") (by decide +kernel)) (fun _ h9 => h9) rfl dX7_reachBy_28 ?_
          refine lv_iload_n hx hb dX7_reachBy_31 rfl (lv_at hl 3 rfl) ?_
          refine va_iald hx hb hK hP 1 1 rfl rfl (by show ¬ (_ ∨ _); decide) dX7_reachBy_32 ?_
          refine lv_topi (fun x_6 ex_6 => ?_)
          have ex_6 : x_6 = fs 2 := ex_6
          obtain rfl : x_6 = nI u2 := ex_6.trans hs.2.2
          refine lv_iload hx hb dX7_reachBy_33 (lv_at hl 4 rfl) ?_
          refine lv_iconst (v := 1) hx hb dX7_reachBy_35 (by decide) ?_
          refine lv_isub hx hb dX7_reachBy_36 ?_
          refine lv_topi (fun x_7 ex_7 => ?_)
          obtain rfl : x_7 = nI (n - 1) := ex_7.trans (pk_sub (a := n) (b := 1) (by omega))
          refine lv_irem hx hb dX7_reachBy_37 (nI_ne0 (by omega) (by omega)) ?_
          refine lv_topi (fun x_8 ex_8 => ?_)
          obtain rfl : x_8 = nI (u2 % (n - 1)) := ex_8.trans (pk_rem (a := u2) (d := n - 1) (by omega) (by omega) (by omega))
          refine lv_if_ne (tgt := 159) hx hb dX7_reachBy_38 (by decide) (fun c_9 => ?_) (fun c_9 => ?_)
          · have c_9 : ¬ (u2 % (n - 1)) = 0 := fun q9 => c_9 ((nI_eq (a := u2 % (n - 1)) (b := 0) (by omega) (by omega)).mpr q9)
            obtain ⟨x_10, ex_10⟩ : ∃ y : Int32, y = (nI n) + 1 := ⟨_, rfl⟩
            refine lv_iinc (v := x_10) (lv' := [(4, .int x_10), (0, .ref xSta), (1, .int (nI q)), (2, .int 0), (3, .int 2)]) hx hb dX7_reachBy_159 hl (k := 4) rfl (by rw [ex_10]; rfl) (by decide) rfl (fun ls hl => ?_)
            obtain rfl : x_10 = nI (n + 1) := ex_10.trans (nI_1 n)
            have hl : lv_has ls 8 [(4, .int (nI (n + 1))), (0, .ref xSta), (1, .int (nI q)), (2, .int 0), (3, .int 2)] := hl
            refine lv_goto (tgt := 3) hx hb dX7_reachBy_162 (by decide) ?_
            exact out _ _ _ (ih (n + 1) P ga gq gr (by omega) (by omega) (by omega) hP0 hPI hPR ((congrArg (fun L9 => q_sees k (d + 1) L9 P) (nb_no (fun h9 => c_9 h9.2.1))).symm.trans hPT) _ _ (hP.sub [0, 1, 2, 3, 4] rfl) (hD.sub [0, 1, 2, 3, 4] (by decide) rfl) hS ls (lv_sub hl [1, 2, 3, 4, 0] rfl))
          · have c_9 : (u2 % (n - 1)) = 0 := (nI_eq (a := u2 % (n - 1)) (b := 0) (by omega) (by omega)).mp c_9
            refine lv_aload_n hx hb dX7_reachBy_41 rfl (lv_at hl 0 rfl) ?_
            refine va_get (D := (dC, dI)) (ci := 7) (v := .ref fS) (C := RX7) (T := TX7) (N := 10) hx hb hts hiX7 hown hK hP 0 rfl rfl 2 (by decide) (hts (.fieldLink RX7 19 "ScissorsTable$Stairs" "sides" "[I") (by decide +kernel)) (fun _ h9 => h9) rfl dX7_reachBy_42 ?_
            refine lv_iload_n hx hb dX7_reachBy_45 rfl (lv_at hl 3 rfl) ?_
            refine va_iald hx hb hK hP 1 1 rfl rfl (by show ¬ (_ ∨ _); decide) dX7_reachBy_46 ?_
            refine lv_topi (fun x_11 ex_11 => ?_)
            have ex_11 : x_11 = fs 2 := ex_11
            obtain rfl : x_11 = nI u2 := ex_11.trans hs.2.2
            refine lv_iload hx hb dX7_reachBy_47 (lv_at hl 4 rfl) ?_
            refine lv_iconst (v := 1) hx hb dX7_reachBy_49 (by decide) ?_
            refine lv_isub hx hb dX7_reachBy_50 ?_
            refine lv_topi (fun x_12 ex_12 => ?_)
            obtain rfl : x_12 = nI (n - 1) := ex_12.trans (pk_sub (a := n) (b := 1) (by omega))
            refine lv_idiv hx hb dX7_reachBy_51 (nI_ne0 (by omega) (by omega)) ?_
            refine lv_topi (fun x_13 ex_13 => ?_)
            obtain rfl : x_13 = nI (u2 / (n - 1)) := ex_13.trans (pk_div (a := u2) (d := n - 1) (by omega) (by omega) (by omega))
            refine lv_iload hx hb dX7_reachBy_52 (lv_at hl 4 rfl) ?_
            refine lv_imul hx hb dX7_reachBy_54 ?_
            refine lv_topi (fun x_14 ex_14 => ?_)
            obtain rfl : x_14 = nI ((u2 / (n - 1)) * n) := ex_14.trans (pk_mul (u2 / (n - 1)) n)
            refine lv_bipush (v := 24) hx hb dX7_reachBy_55 (by decide) ?_
            refine lv_icmp_gt (tgt := 159) hx hb dX7_reachBy_57 (by decide) (fun c_15 => ?_) (fun c_15 => ?_)
            · have c_15 : 24 < ((u2 / (n - 1)) * n) := (nI_ltI (a := 24) (b := (u2 / (n - 1)) * n) (by omega) (by omega)).mp c_15
              obtain ⟨x_16, ex_16⟩ : ∃ y : Int32, y = (nI n) + 1 := ⟨_, rfl⟩
              refine lv_iinc (v := x_16) (lv' := [(4, .int x_16), (0, .ref xSta), (1, .int (nI q)), (2, .int 0), (3, .int 2)]) hx hb dX7_reachBy_159 hl (k := 4) rfl (by rw [ex_16]; rfl) (by decide) rfl (fun ls hl => ?_)
              obtain rfl : x_16 = nI (n + 1) := ex_16.trans (nI_1 n)
              have hl : lv_has ls 8 [(4, .int (nI (n + 1))), (0, .ref xSta), (1, .int (nI q)), (2, .int 0), (3, .int 2)] := hl
              refine lv_goto (tgt := 3) hx hb dX7_reachBy_162 (by decide) ?_
              exact out _ _ _ (ih (n + 1) P ga gq gr (by omega) (by omega) (by omega) hP0 hPI hPR ((congrArg (fun L9 => q_sees k (d + 1) L9 P) (nb_no (fun h9 => Nat.not_le.mpr c_15 h9.2.2))).symm.trans hPT) _ _ (hP.sub [0, 1, 2, 3, 4] rfl) (hD.sub [0, 1, 2, 3, 4] (by decide) rfl) hS ls (lv_sub hl [1, 2, 3, 4, 0] rfl))
            · have c_15 : ¬ 24 < ((u2 / (n - 1)) * n) := fun q9 => c_15 ((nI_ltI (a := 24) (b := (u2 / (n - 1)) * n) (by omega) (by omega)).mpr q9)
              have o3 : u2 / (n - 1) * n ≤ 24 := Nat.not_lt.mp c_15
              have oo : sd u0 u1 u2 0 % n = 0 ∧ sd u0 u1 u2 2 % (n - 1) = 0 ∧ sd u0 u1 u2 2 / (n - 1) * n ≤ 24 := ⟨c_4, c_9, o3⟩
              have l1 := st_lo h6 (show 1 ≤ u0 by omega) (show u0 ≤ 24 by omega) c_4
              have l2 := st_hi h6 (show 1 ≤ u2 by omega) c_9
              have hgo : bx_in V (st_go u0 u1 u2 0 2 n) := st_go_in hu.1 hu.2.1 hu.2.2 hV (by decide) (by decide) (by decide) h6 (st_ok_iff.mpr oo)
              rw [nb_yes oo] at hPT
              have hPT : q_sees k (d + 1) (nb_n u0 u1 u2 0 2 (25 - (n + 1)) (n + 1)) (q_see P k (d + 1) (st_go u0 u1 u2 0 2 n)) = T := hPT
              refine lv_aload_n hx hb dX7_reachBy_60 rfl (lv_at hl 0 rfl) ?_
              refine lv_iconst (v := 0) hx hb dX7_reachBy_61 (by decide) ?_
              refine lv_iload_n hx hb dX7_reachBy_62 rfl (lv_at hl 2 rfl) ?_
              refine lv_iload_n hx hb dX7_reachBy_63 rfl (lv_at hl 3 rfl) ?_
              refine lv_iload hx hb dX7_reachBy_64 (lv_at hl 4 rfl) ?_
              have hPc := hP.sub (ws' := [(xSta, .inr (7, [.int (-1), .ref fL, .ref fS, .ref fP, .ref fT, .ref fA, .ref fQ, .ref fR, .int (nI P.length), .ref fN])), (fS, .inl (cI, 3, (.inl fs)))]) [0, 1] rfl
              have hDc := hD.sub (ws' := [(xSta, .inr (7, [.int (-1), .ref fL, .ref fS, .ref fP, .ref fT, .ref fA, .ref fQ, .ref fR, .int (nI P.length), .ref fN])), (fS, .inl (cI, 3, (.inl fs)))]) [0, 1] (by decide) rfl
              have hFc := va_free (wc := [(xSta, .inr (7, [.int (-1), .ref fL, .ref fS, .ref fP, .ref fT, .ref fA, .ref fQ, .ref fR, .int (nI P.length), .ref fN])), (fS, .inl (cI, 3, (.inl fs)))]) hD hS hA [0, 1] rfl
              refine va_calli (va_runV (As := [.int 0, .int 0, .int 2, .int (nI n)]) (rest := []) ⟨hx, hb, hml, hown, hts⟩ (c_X7_sideThen_002 l dC dI cB cI cJ H.size xSta fL fS fP fT fA fQ fR fN (nI P.length) fs u0 n hs.1 (by omega) (by omega)) (cwV 4 hts gX7_reachBy_X7_sideThen rfl rfl rfl (by decide +kernel) ⟨Nat.le_of_ble_eq_true rfl, Nat.le_of_ble_eq_true rfl⟩) ⟨fun a U g mk q => by obtain ⟨q0, q1, qP, qK, qD⟩ := q; exact ⟨q0, q1, qP, va_K.moved (u := U) (U := U.calling g mk a) (Vm.Alike.refl U.vm) qK, qD⟩, va_recv hK hP (ci := 7) (q0 := 0) rfl rfl, fun U hU hW => ⟨rfl, by rw [hU], by rw [hU]; exact hPc, va_K.moved hW.alike hK, hDc.weaken (fun _ _ _ _ => trivial)⟩⟩ rfl rfl hl.1 rfl (lv_room (Nat.le_of_ble_eq_true rfl)) dX7_reachBy_66 ⟨Nat.le_of_ble_eq_true rfl, Nat.le_of_ble_eq_true rfl⟩) hS (fun q _ h => hFc q h) hFc (fun r_17 u t H1 locs ht hvm hw hB hz1 hk1 hS => ?_)
              obtain ⟨hP1, hK1, hD1⟩ := hB
              rw [ht] at hP1
              obtain ⟨hP, hD⟩ := va_join (wr := [(fA, .inl (cI, 576, (.inl ga))), (fQ, .inl (cI, 576, (.inl gq))), (fR, .inl (cI, 576, (.inl gr)))]) (w1 := [(xSta, .inr (7, [.int (-1), .ref fL, .ref fS, .ref fP, .ref fT, .ref fA, .ref fQ, .ref fR, .int (nI P.length), .ref fN])), (fS, .inl (cI, 3, (.inl fs)))]) hP hD [0, 1] [2, 3, 4] rfl rfl (by decide) (by decide) hk1 hFc hP1 hD1
              generalize H1 = H at hP hS ⊢
              have hP : va_P (dC, dI) vwCl [(fA, .inl (cI, 576, (.inl ga))), (fQ, .inl (cI, 576, (.inl gq))), (fR, .inl (cI, 576, (.inl gr))), (xSta, .inr (7, [.int (-1), .ref fL, .ref fS, .ref fP, .ref fT, .ref fA, .ref fQ, .ref fR, .int (nI P.length), .ref fN])), (fS, .inl (cI, 3, (.inl fs)))] H := hP
              have hD : va_D A [(fA, .inl (cI, 576, (.inl ga))), (fQ, .inl (cI, 576, (.inl gq))), (fR, .inl (cI, 576, (.inl gr))), (xSta, .inr (7, [.int (-1), .ref fL, .ref fS, .ref fP, .ref fT, .ref fA, .ref fQ, .ref fR, .int (nI P.length), .ref fN])), (fS, .inl (cI, 3, (.inl fs)))] := hD
              obtain rfl : r_17 = nI (u0 / n * (n - 1)) := hw
              refine lv_istore (lv' := [(5, .int (nI (u0 / n * (n - 1)))), (0, .ref xSta), (1, .int (nI q)), (2, .int 0), (3, .int 2), (4, .int (nI n))]) hx hb dX7_reachBy_69 hl (by decide) rfl (fun ls hl => ?_)
              refine lv_aload_n hx hb dX7_reachBy_71 rfl (lv_at hl 1 rfl) ?_
              refine lv_iconst (v := 1) hx hb dX7_reachBy_72 (by decide) ?_
              refine lv_iload_n hx hb dX7_reachBy_73 rfl (lv_at hl 3 rfl) ?_
              refine lv_iload_n hx hb dX7_reachBy_74 rfl (lv_at hl 4 rfl) ?_
              refine lv_iload hx hb dX7_reachBy_75 (lv_at hl 5 rfl) ?_
              have hPc := hP.sub (ws' := [(xSta, .inr (7, [.int (-1), .ref fL, .ref fS, .ref fP, .ref fT, .ref fA, .ref fQ, .ref fR, .int (nI P.length), .ref fN])), (fS, .inl (cI, 3, (.inl fs)))]) [3, 4] rfl
              have hDc := hD.sub (ws' := [(xSta, .inr (7, [.int (-1), .ref fL, .ref fS, .ref fP, .ref fT, .ref fA, .ref fQ, .ref fR, .int (nI P.length), .ref fN])), (fS, .inl (cI, 3, (.inl fs)))]) [3, 4] (by decide) rfl
              have hFc := va_free (wc := [(xSta, .inr (7, [.int (-1), .ref fL, .ref fS, .ref fP, .ref fT, .ref fA, .ref fQ, .ref fR, .int (nI P.length), .ref fN])), (fS, .inl (cI, 3, (.inl fs)))]) hD hS hA [3, 4] rfl
              refine va_calli (va_runV (As := [.int 1, .int 0, .int 2, .int (nI n)]) (rest := []) ⟨hx, hb, hml, hown, hts⟩ (c_X7_sideThen_102 l dC dI cB cI cJ H.size xSta fL fS fP fT fA fQ fR fN (nI P.length) fs u1 n hs.2.1 (by omega) (by omega)) (cwV 4 hts gX7_reachBy_X7_sideThen rfl rfl rfl (by decide +kernel) ⟨Nat.le_of_ble_eq_true rfl, Nat.le_of_ble_eq_true rfl⟩) ⟨fun a U g mk q => by obtain ⟨q0, q1, qP, qK, qD⟩ := q; exact ⟨q0, q1, qP, va_K.moved (u := U) (U := U.calling g mk a) (Vm.Alike.refl U.vm) qK, qD⟩, va_recv hK hP (ci := 7) (q0 := 3) rfl rfl, fun U hU hW => ⟨rfl, by rw [hU], by rw [hU]; exact hPc, va_K.moved hW.alike hK, hDc.weaken (fun _ _ _ _ => trivial)⟩⟩ rfl rfl hl.1 rfl (lv_room (Nat.le_of_ble_eq_true rfl)) dX7_reachBy_77 ⟨Nat.le_of_ble_eq_true rfl, Nat.le_of_ble_eq_true rfl⟩) hS (fun q _ h => hFc q h) hFc (fun r_18 u t H1 locs ht hvm hw hB hz1 hk1 hS => ?_)
              obtain ⟨hP1, hK1, hD1⟩ := hB
              rw [ht] at hP1
              obtain ⟨hP, hD⟩ := va_join (wr := [(fA, .inl (cI, 576, (.inl ga))), (fQ, .inl (cI, 576, (.inl gq))), (fR, .inl (cI, 576, (.inl gr)))]) (w1 := [(xSta, .inr (7, [.int (-1), .ref fL, .ref fS, .ref fP, .ref fT, .ref fA, .ref fQ, .ref fR, .int (nI P.length), .ref fN])), (fS, .inl (cI, 3, (.inl fs)))]) hP hD [3, 4] [0, 1, 2] rfl rfl (by decide) (by decide) hk1 hFc hP1 hD1
              generalize H1 = H at hP hS ⊢
              have hP : va_P (dC, dI) vwCl [(fA, .inl (cI, 576, (.inl ga))), (fQ, .inl (cI, 576, (.inl gq))), (fR, .inl (cI, 576, (.inl gr))), (xSta, .inr (7, [.int (-1), .ref fL, .ref fS, .ref fP, .ref fT, .ref fA, .ref fQ, .ref fR, .int (nI P.length), .ref fN])), (fS, .inl (cI, 3, (.inl fs)))] H := hP
              have hD : va_D A [(fA, .inl (cI, 576, (.inl ga))), (fQ, .inl (cI, 576, (.inl gq))), (fR, .inl (cI, 576, (.inl gr))), (xSta, .inr (7, [.int (-1), .ref fL, .ref fS, .ref fP, .ref fT, .ref fA, .ref fQ, .ref fR, .int (nI P.length), .ref fN])), (fS, .inl (cI, 3, (.inl fs)))] := hD
              obtain rfl : r_18 = nI (u1) := hw
              refine lv_istore (lv' := [(6, .int (nI (u1))), (5, .int (nI (u0 / n * (n - 1)))), (0, .ref xSta), (1, .int (nI q)), (2, .int 0), (3, .int 2), (4, .int (nI n))]) hx hb dX7_reachBy_80 hl (by decide) rfl (fun ls hl => ?_)
              refine lv_iload hx hb dX7_reachBy_82 (lv_at hl 1 rfl) ?_
              refine lv_iload hx hb dX7_reachBy_84 (lv_at hl 0 rfl) ?_
              have hPc := hP.sub (ws' := []) [] rfl
              have hDc := hD.sub (ws' := []) [] (by decide) rfl
              have hFc := va_free (wc := []) hD hS hA [] rfl
              refine va_calli (va_runS (As := [.int (nI (u0 / n * (n - 1))), .int (nI (u1))]) (rest := []) ⟨hx, hb, hml, hown, hts⟩ (c_X7_boxOf l dC dI cB cI cJ H.size (u0 / n * (n - 1)) u1 (by omega) (by omega)) (va_cwS 2 hts gX7_reachBy_X7_boxOf rfl rfl rfl (by decide +kernel) ⟨Nat.le_of_ble_eq_true rfl, Nat.le_of_ble_eq_true rfl⟩) ⟨fun a U g mk q => by obtain ⟨q0, q1, qP, qK, qD⟩ := q; exact ⟨q0, q1, qP, va_K.moved (u := U) (U := U.calling g mk a) (Vm.Alike.refl U.vm) qK, qD⟩, fun U hU hW => ⟨rfl, by rw [hU], by rw [hU]; exact hPc, va_K.moved hW.alike hK, hDc.weaken (fun _ _ _ _ => trivial)⟩⟩ rfl rfl hl.1 rfl (lv_room (Nat.le_of_ble_eq_true rfl)) dX7_reachBy_86 ⟨Nat.le_of_ble_eq_true rfl, Nat.le_of_ble_eq_true rfl⟩) hS (fun q _ h => hFc q h) hFc (fun r_19 u t H1 locs ht hvm hw hB hz1 hk1 hS => ?_)
              have hP1 : va_P (dC, dI) vwCl [] H1 := fun k q h => by simp at h
              have hD1 : va_D (va_A [] H.size) [] := ⟨fun i j p q h => by simp at h, fun k q h => by simp at h⟩
              obtain ⟨hP, hD⟩ := va_join (wr := [(fA, .inl (cI, 576, (.inl ga))), (fQ, .inl (cI, 576, (.inl gq))), (fR, .inl (cI, 576, (.inl gr))), (xSta, .inr (7, [.int (-1), .ref fL, .ref fS, .ref fP, .ref fT, .ref fA, .ref fQ, .ref fR, .int (nI P.length), .ref fN])), (fS, .inl (cI, 3, (.inl fs)))]) (w1 := []) hP hD [] [0, 1, 2, 3, 4] rfl rfl (by decide) (by decide) hk1 hFc hP1 hD1
              generalize H1 = H at hP hS ⊢
              have hP : va_P (dC, dI) vwCl [(fA, .inl (cI, 576, (.inl ga))), (fQ, .inl (cI, 576, (.inl gq))), (fR, .inl (cI, 576, (.inl gr))), (xSta, .inr (7, [.int (-1), .ref fL, .ref fS, .ref fP, .ref fT, .ref fA, .ref fQ, .ref fR, .int (nI P.length), .ref fN])), (fS, .inl (cI, 3, (.inl fs)))] H := hP
              have hD : va_D A [(fA, .inl (cI, 576, (.inl ga))), (fQ, .inl (cI, 576, (.inl gq))), (fR, .inl (cI, 576, (.inl gr))), (xSta, .inr (7, [.int (-1), .ref fL, .ref fS, .ref fP, .ref fT, .ref fA, .ref fQ, .ref fR, .int (nI P.length), .ref fN])), (fS, .inl (cI, 3, (.inl fs)))] := hD
              obtain rfl : r_19 = nI ((u0 / n * (n - 1) - 1) * 24 + (u1 - 1)) := hw
              have hcd : ((u0 / n * (n - 1)) - 1) * 24 + (u1 - 1) = bx_cd (st_go u0 u1 u2 0 2 n) := (bx_cd_mk (x := u0 / n * (n - 1)) (y := u1) (z := u2 / (n - 1) * n) (by omega) (by omega)).symm
              rw [hcd]
              have hlt := bx_cd_lt hgo
              refine lv_istore (lv' := [(7, .int (nI (bx_cd (st_go u0 u1 u2 0 2 n)))), (6, .int (nI (u1))), (5, .int (nI (u0 / n * (n - 1)))), (0, .ref xSta), (1, .int (nI q)), (2, .int 0), (3, .int 2), (4, .int (nI n))]) hx hb dX7_reachBy_89 hl (by decide) rfl (fun ls hl => ?_)
              refine lv_aload_n hx hb dX7_reachBy_91 rfl (lv_at hl 3 rfl) ?_
              refine va_get (D := (dC, dI)) (ci := 7) (v := .ref fA) (C := RX7) (T := TX7) (N := 10) hx hb hts hiX7 hown hK hP 3 rfl rfl 5 (by decide) (hts (.fieldLink RX7 28 "ScissorsTable$Stairs" "ahead" "[I") (by decide +kernel)) (fun _ h9 => h9) rfl dX7_reachBy_92 ?_
              refine lv_iload hx hb dX7_reachBy_95 (lv_at hl 0 rfl) ?_
              refine va_iald hx hb hK hP 0 1 rfl rfl (vp_in_nI (by omega) (by decide)) dX7_reachBy_97 ?_
              refine lv_topi (fun x_20 ex_20 => ?_)
              rw [nI_clamp (show bx_cd (st_go u0 u1 u2 0 2 n) < 2 ^ 31 by omega)] at ex_20
              refine lv_iconst (v := (-1)) hx hb dX7_reachBy_98 (by decide) ?_
              refine lv_icmp_ne (tgt := 159) hx hb dX7_reachBy_99 (by decide) (fun c_21 => ?_) (fun c_21 => ?_)
              · have hh : q_has P (st_go u0 u1 u2 0 2 n) = true := RC_yes hPR hPI hgo (fun q9 => c_21 (ex_20.trans q9))
                rw [q_see_yes hh] at hPT
                obtain ⟨x_22, ex_22⟩ : ∃ y : Int32, y = (nI n) + 1 := ⟨_, rfl⟩
                refine lv_iinc (v := x_22) (lv' := [(4, .int x_22), (7, .int (nI (bx_cd (st_go u0 u1 u2 0 2 n)))), (6, .int (nI (u1))), (5, .int (nI (u0 / n * (n - 1)))), (0, .ref xSta), (1, .int (nI q)), (2, .int 0), (3, .int 2)]) hx hb dX7_reachBy_159 hl (k := 7) rfl (by rw [ex_22]; rfl) (by decide) rfl (fun ls hl => ?_)
                obtain rfl : x_22 = nI (n + 1) := ex_22.trans (nI_1 n)
                have hl : lv_has ls 8 [(4, .int (nI (n + 1))), (7, .int (nI (bx_cd (st_go u0 u1 u2 0 2 n)))), (6, .int (nI (u1))), (5, .int (nI (u0 / n * (n - 1)))), (0, .ref xSta), (1, .int (nI q)), (2, .int 0), (3, .int 2)] := hl
                refine lv_goto (tgt := 3) hx hb dX7_reachBy_162 (by decide) ?_
                exact out _ _ _ (ih (n + 1) P ga gq gr (by omega) (by omega) (by omega) hP0 hPI hPR hPT _ _ (hP.sub [3, 4, 0, 1, 2] rfl) (hD.sub [3, 4, 0, 1, 2] (by decide) rfl) hS ls (lv_sub hl [4, 5, 6, 7, 0] rfl))
              · have hh : q_has P (st_go u0 u1 u2 0 2 n) = false := RC_no hPR hPI hgo (ex_20.symm.trans c_21)
                rw [q_see_no hh] at hPT
                have hPl2 : P.length < 576 := by
                  have h9 := Nat.le_trans (q_pre_len (hPT ▸ q_sees_pre k (d + 1) (nb_n u0 u1 u2 0 2 (25 - (n + 1)) (n + 1)) _)) hTl
                  rw [List.length_append] at h9
                  exact h9
                refine lv_aload_n hx hb dX7_reachBy_102 rfl (lv_at hl 3 rfl) ?_
                refine va_get (D := (dC, dI)) (ci := 7) (v := .int (nI P.length)) (C := RX7) (T := TX7) (N := 10) hx hb hts hiX7 hown hK hP 3 rfl rfl 8 (by decide) (hts (.fieldLink RX7 55 "ScissorsTable$Stairs" "queued" "I") (by decide +kernel)) (fun _ h9 => h9) rfl dX7_reachBy_103 ?_
                refine lv_sipush (v := 576) hx hb dX7_reachBy_106 (by decide) ?_
                refine lv_icmp_ge (tgt := 159) hx hb dX7_reachBy_109 (by decide) (fun c_23 => ?_) (fun c_23 => ?_)
                · have c_23 : 576 ≤ P.length := (nI_leI (a := 576) (b := P.length) (by omega) (by omega)).mp c_23
                  exfalso
                  omega
                · have c_23 : ¬ 576 ≤ P.length := fun q9 => c_23 ((nI_leI (a := 576) (b := P.length) (by omega) (by omega)).mpr q9)
                  refine lv_aload_n hx hb dX7_reachBy_112 rfl (lv_at hl 3 rfl) ?_
                  refine va_get (D := (dC, dI)) (ci := 7) (v := .ref fA) (C := RX7) (T := TX7) (N := 10) hx hb hts hiX7 hown hK hP 3 rfl rfl 5 (by decide) (hts (.fieldLink RX7 28 "ScissorsTable$Stairs" "ahead" "[I") (by decide +kernel)) (fun _ h9 => h9) rfl dX7_reachBy_113 ?_
                  refine lv_iload hx hb dX7_reachBy_116 (lv_at hl 0 rfl) ?_
                  refine lv_iload_n hx hb dX7_reachBy_118 rfl (lv_at hl 4 rfl) ?_
                  refine va_iast hx hb hK hP hD hS 0 1 rfl rfl (vp_in_nI (by omega) (by decide)) dX7_reachBy_119 (fun H locs hP hD hS => ?_)
                  rw [nI_clamp (show bx_cd (st_go u0 u1 u2 0 2 n) < 2 ^ 31 by omega)] at hP hD
                  have hP : va_P (dC, dI) vwCl [(fA, .inl (cI, 576, (.inl (upd ga (bx_cd (st_go u0 u1 u2 0 2 n)) (nI q))))), (fQ, .inl (cI, 576, (.inl gq))), (fR, .inl (cI, 576, (.inl gr))), (xSta, .inr (7, [.int (-1), .ref fL, .ref fS, .ref fP, .ref fT, .ref fA, .ref fQ, .ref fR, .int (nI P.length), .ref fN])), (fS, .inl (cI, 3, (.inl fs)))] H := hP
                  have hD : va_D A [(fA, .inl (cI, 576, (.inl (upd ga (bx_cd (st_go u0 u1 u2 0 2 n)) (nI q))))), (fQ, .inl (cI, 576, (.inl gq))), (fR, .inl (cI, 576, (.inl gr))), (xSta, .inr (7, [.int (-1), .ref fL, .ref fS, .ref fP, .ref fT, .ref fA, .ref fQ, .ref fR, .int (nI P.length), .ref fN])), (fS, .inl (cI, 3, (.inl fs)))] := hD
                  refine lv_aload_n hx hb dX7_reachBy_120 rfl (lv_at hl 3 rfl) ?_
                  refine va_get (D := (dC, dI)) (ci := 7) (v := .ref fR) (C := RX7) (T := TX7) (N := 10) hx hb hts hiX7 hown hK hP 3 rfl rfl 7 (by decide) (hts (.fieldLink RX7 34 "ScissorsTable$Stairs" "reached" "[I") (by decide +kernel)) (fun _ h9 => h9) rfl dX7_reachBy_121 ?_
                  refine lv_iload hx hb dX7_reachBy_124 (lv_at hl 0 rfl) ?_
                  refine lv_iload_n hx hb dX7_reachBy_126 rfl (lv_at hl 5 rfl) ?_
                  refine lv_iconst (v := 3) hx hb dX7_reachBy_127 (by decide) ?_
                  refine lv_imul hx hb dX7_reachBy_128 ?_
                  refine lv_topi (fun x_24 ex_24 => ?_)
                  obtain rfl : x_24 = 0 := ex_24.trans (by first | rfl | decide)
                  refine lv_iload_n hx hb dX7_reachBy_129 rfl (lv_at hl 6 rfl) ?_
                  refine lv_iadd hx hb dX7_reachBy_130 ?_
                  refine lv_topi (fun x_25 ex_25 => ?_)
                  obtain rfl : x_25 = 2 := ex_25.trans (by first | rfl | decide)
                  refine lv_bipush (v := 25) hx hb dX7_reachBy_131 (by decide) ?_
                  refine lv_imul hx hb dX7_reachBy_133 ?_
                  refine lv_topi (fun x_26 ex_26 => ?_)
                  obtain rfl : x_26 = 50 := ex_26.trans (by first | rfl | decide)
                  refine lv_iload hx hb dX7_reachBy_134 (lv_at hl 7 rfl) ?_
                  refine lv_iadd hx hb dX7_reachBy_136 ?_
                  refine lv_topi (fun x_27 ex_27 => ?_)
                  obtain rfl : x_27 = nI (50 + n) := ex_27.trans (nI_add 50 n)
                  refine va_iast hx hb hK hP hD hS 2 1 rfl rfl (vp_in_nI (by omega) (by decide)) dX7_reachBy_137 (fun H locs hP hD hS => ?_)
                  rw [nI_clamp (show bx_cd (st_go u0 u1 u2 0 2 n) < 2 ^ 31 by omega)] at hP hD
                  have hP : va_P (dC, dI) vwCl [(fA, .inl (cI, 576, (.inl (upd ga (bx_cd (st_go u0 u1 u2 0 2 n)) (nI q))))), (fQ, .inl (cI, 576, (.inl gq))), (fR, .inl (cI, 576, (.inl (upd gr (bx_cd (st_go u0 u1 u2 0 2 n)) (nI (50 + n)))))), (xSta, .inr (7, [.int (-1), .ref fL, .ref fS, .ref fP, .ref fT, .ref fA, .ref fQ, .ref fR, .int (nI P.length), .ref fN])), (fS, .inl (cI, 3, (.inl fs)))] H := hP
                  have hD : va_D A [(fA, .inl (cI, 576, (.inl (upd ga (bx_cd (st_go u0 u1 u2 0 2 n)) (nI q))))), (fQ, .inl (cI, 576, (.inl gq))), (fR, .inl (cI, 576, (.inl (upd gr (bx_cd (st_go u0 u1 u2 0 2 n)) (nI (50 + n)))))), (xSta, .inr (7, [.int (-1), .ref fL, .ref fS, .ref fP, .ref fT, .ref fA, .ref fQ, .ref fR, .int (nI P.length), .ref fN])), (fS, .inl (cI, 3, (.inl fs)))] := hD
                  refine lv_aload_n hx hb dX7_reachBy_138 rfl (lv_at hl 3 rfl) ?_
                  refine va_get (D := (dC, dI)) (ci := 7) (v := .ref fQ) (C := RX7) (T := TX7) (N := 10) hx hb hts hiX7 hown hK hP 3 rfl rfl 6 (by decide) (hts (.fieldLink RX7 31 "ScissorsTable$Stairs" "queue" "[I") (by decide +kernel)) (fun _ h9 => h9) rfl dX7_reachBy_139 ?_
                  refine lv_aload_n hx hb dX7_reachBy_142 rfl (lv_at hl 3 rfl) ?_
                  refine va_get (D := (dC, dI)) (ci := 7) (v := .int (nI P.length)) (C := RX7) (T := TX7) (N := 10) hx hb hts hiX7 hown hK hP 3 rfl rfl 8 (by decide) (hts (.fieldLink RX7 55 "ScissorsTable$Stairs" "queued" "I") (by decide +kernel)) (fun _ h9 => h9) rfl dX7_reachBy_143 ?_
                  refine lv_iload hx hb dX7_reachBy_146 (lv_at hl 0 rfl) ?_
                  refine va_iast hx hb hK hP hD hS 1 1 rfl rfl (vp_in_nI (by omega) (by decide)) dX7_reachBy_148 (fun H locs hP hD hS => ?_)
                  rw [nI_clamp (show P.length < 2 ^ 31 by omega)] at hP hD
                  have hP : va_P (dC, dI) vwCl [(fA, .inl (cI, 576, (.inl (upd ga (bx_cd (st_go u0 u1 u2 0 2 n)) (nI q))))), (fQ, .inl (cI, 576, (.inl (upd gq P.length (nI (bx_cd (st_go u0 u1 u2 0 2 n))))))), (fR, .inl (cI, 576, (.inl (upd gr (bx_cd (st_go u0 u1 u2 0 2 n)) (nI (50 + n)))))), (xSta, .inr (7, [.int (-1), .ref fL, .ref fS, .ref fP, .ref fT, .ref fA, .ref fQ, .ref fR, .int (nI P.length), .ref fN])), (fS, .inl (cI, 3, (.inl fs)))] H := hP
                  have hD : va_D A [(fA, .inl (cI, 576, (.inl (upd ga (bx_cd (st_go u0 u1 u2 0 2 n)) (nI q))))), (fQ, .inl (cI, 576, (.inl (upd gq P.length (nI (bx_cd (st_go u0 u1 u2 0 2 n))))))), (fR, .inl (cI, 576, (.inl (upd gr (bx_cd (st_go u0 u1 u2 0 2 n)) (nI (50 + n)))))), (xSta, .inr (7, [.int (-1), .ref fL, .ref fS, .ref fP, .ref fT, .ref fA, .ref fQ, .ref fR, .int (nI P.length), .ref fN])), (fS, .inl (cI, 3, (.inl fs)))] := hD
                  refine lv_aload_n hx hb dX7_reachBy_149 rfl (lv_at hl 3 rfl) ?_
                  refine lv_dup hx hb dX7_reachBy_150 rfl ?_
                  refine va_get (D := (dC, dI)) (ci := 7) (v := .int (nI P.length)) (C := RX7) (T := TX7) (N := 10) hx hb hts hiX7 hown hK hP 3 rfl rfl 8 (by decide) (hts (.fieldLink RX7 55 "ScissorsTable$Stairs" "queued" "I") (by decide +kernel)) (fun _ h9 => h9) rfl dX7_reachBy_151 ?_
                  refine lv_iconst (v := 1) hx hb dX7_reachBy_154 (by decide) ?_
                  refine lv_iadd hx hb dX7_reachBy_155 ?_
                  refine lv_topi (fun x_28 ex_28 => ?_)
                  obtain rfl : x_28 = nI (P.length + 1) := ex_28.trans (nI_add P.length 1)
                  rw [show nI (P.length + 1) = nI (P ++ [(st_go u0 u1 u2 0 2 n, k, d + 1)]).length from congrArg nI nk_len]
                  refine va_put (D := (dC, dI)) (ci := 7) (v := .int (nI (P ++ [(st_go u0 u1 u2 0 2 n, k, d + 1)]).length)) (ty := .int) (C := RX7) (T := TX7) (N := 10) hx hb hts hiX7 tyX7 tyX7_ok nmX7 hown hK hP hD hS 3 rfl rfl 8 (by decide) (hts (.fieldLink RX7 55 "ScissorsTable$Stairs" "queued" "I") (by decide +kernel)) (fun _ h9 => h9) rfl (by decide +kernel) rfl rfl (Nat.le_of_ble_eq_true rfl) dX7_reachBy_156 (fun H locs hP hD hS => ?_)
                  have hP : va_P (dC, dI) vwCl [(fA, .inl (cI, 576, (.inl (upd ga (bx_cd (st_go u0 u1 u2 0 2 n)) (nI q))))), (fQ, .inl (cI, 576, (.inl (upd gq P.length (nI (bx_cd (st_go u0 u1 u2 0 2 n))))))), (fR, .inl (cI, 576, (.inl (upd gr (bx_cd (st_go u0 u1 u2 0 2 n)) (nI (50 + n)))))), (xSta, .inr (7, [.int (-1), .ref fL, .ref fS, .ref fP, .ref fT, .ref fA, .ref fQ, .ref fR, .int (nI (P ++ [(st_go u0 u1 u2 0 2 n, k, d + 1)]).length), .ref fN])), (fS, .inl (cI, 3, (.inl fs)))] H := hP
                  have hD : va_D A [(fA, .inl (cI, 576, (.inl (upd ga (bx_cd (st_go u0 u1 u2 0 2 n)) (nI q))))), (fQ, .inl (cI, 576, (.inl (upd gq P.length (nI (bx_cd (st_go u0 u1 u2 0 2 n))))))), (fR, .inl (cI, 576, (.inl (upd gr (bx_cd (st_go u0 u1 u2 0 2 n)) (nI (50 + n)))))), (xSta, .inr (7, [.int (-1), .ref fL, .ref fS, .ref fP, .ref fT, .ref fA, .ref fQ, .ref fR, .int (nI (P ++ [(st_go u0 u1 u2 0 2 n, k, d + 1)]).length), .ref fN])), (fS, .inl (cI, 3, (.inl fs)))] := hD
                  obtain ⟨x_29, ex_29⟩ : ∃ y : Int32, y = (nI n) + 1 := ⟨_, rfl⟩
                  refine lv_iinc (v := x_29) (lv' := [(4, .int x_29), (7, .int (nI (bx_cd (st_go u0 u1 u2 0 2 n)))), (6, .int (nI (u1))), (5, .int (nI (u0 / n * (n - 1)))), (0, .ref xSta), (1, .int (nI q)), (2, .int 0), (3, .int 2)]) hx hb dX7_reachBy_159 hl (k := 7) rfl (by rw [ex_29]; rfl) (by decide) rfl (fun ls hl => ?_)
                  obtain rfl : x_29 = nI (n + 1) := ex_29.trans (nI_1 n)
                  have hl : lv_has ls 8 [(4, .int (nI (n + 1))), (7, .int (nI (bx_cd (st_go u0 u1 u2 0 2 n)))), (6, .int (nI (u1))), (5, .int (nI (u0 / n * (n - 1)))), (0, .ref xSta), (1, .int (nI q)), (2, .int 0), (3, .int 2)] := hl
                  refine lv_goto (tgt := 3) hx hb dX7_reachBy_162 (by decide) ?_
                  exact out _ _ _ (ih (n + 1) _ _ _ _ (by omega) (by omega) (by omega) (q_app_old hP0) (by have h9 := q_in_add (k := k) (d := d + 1) hPI hgo; rw [q_see_no hh] at h9; exact h9) (by have h9 := RC_add (d := d + 1) hPR hPI hP0 hgo hh; have h8 : bx_cd ((bx_mk u0 u1 u2, pk, d) : qE).1 = q := hq.symm; rw [h8] at h9; exact h9) hPT _ _ (hP.sub [3, 4, 0, 1, 2] rfl) (hD.sub [3, 4, 0, 1, 2] (by decide) rfl) hS ls (lv_sub hl [4, 5, 6, 7, 0] rfl))
  exact loop 24 2 Q fa fq fr rfl (by omega) (by omega) hk hI hR hT _ _ (hP.sub [0, 1, 2, 3, 4] rfl) (hD.sub [0, 1, 2, 3, 4] (by decide) rfl) hS ls (lv_sub hl [1, 2, 3, 4, 0] rfl)
set_option maxHeartbeats 4000000 in
set_option maxRecDepth 100000 in
theorem c_X7_reachBy_10 (l : Launch) (dC : Nat → ClassId) (dI : Nat → Nat → Nat) (cB cI cJ : ClassId) (sz : Nat) (xSta fL fS fP fT fA fQ fR fN : Nat) (Q T : List qE) (fs fa fq fr : Nat → Int32) (V u0 u1 u2 q k pk d : Nat) (hu : (1 ≤ u0 ∧ u0 ≤ 24) ∧ (1 ≤ u1 ∧ u1 ≤ 24) ∧ (1 ≤ u2 ∧ u2 ≤ 24)) (hV : u0 * u1 * u2 = V) (hs : fs 0 = nI u0 ∧ fs 1 = nI u1 ∧ fs 2 = nI u2) (hq : q = bx_cd (bx_mk u0 u1 u2)) (hk : Q[k]? = some (bx_mk u0 u1 u2, pk, d)) (hI : q_in V Q) (hR : RC Q fa fq) (hT : q_sees k (d + 1) (nb_n u0 u1 u2 1 0 23 2) Q = T) (hTl : T.length ≤ 576) : Met l yX7_reachBy wsX7_reachBy ({ frames := 2, cells := 0, slots := 0, locals := 48 }) (va_Pc [.ref xSta, .int (nI q), .int 1, .int 0] (fun U => U.heap.size = sz ∧ va_P (dC, dI) vwCl [(xSta, .inr (7, [.int (-1), .ref fL, .ref fS, .ref fP, .ref fT, .ref fA, .ref fQ, .ref fR, .int (nI Q.length), .ref fN])), (fS, .inl (cI, 3, (.inl fs))), (fA, .inl (cI, 576, (.inl fa))), (fQ, .inl (cI, 576, (.inl fq))), (fR, .inl (cI, 576, (.inl fr)))] U.heap ∧ va_K (dC, dI) vwCl [(cB, .byte), (cI, .int), (cJ, .long)] U ∧ va_D (fun _ => True) [(xSta, .inr (7, [.int (-1), .ref fL, .ref fS, .ref fP, .ref fT, .ref fA, .ref fQ, .ref fR, .int (nI Q.length), .ref fN])), (fS, .inl (cI, 3, (.inl fs))), (fA, .inl (cI, 576, (.inl fa))), (fQ, .inl (cI, 576, (.inl fq))), (fR, .inl (cI, 576, (.inl fr)))])) (va_Qv (fun _ : Unit => True) (fun _ t => ∃ fz : Nat → Int32, ∃ fy : Nat → Int32, ∃ fw : Nat → Int32, RC T fz fy ∧ va_P (dC, dI) vwCl [(xSta, .inr (7, [.int (-1), .ref fL, .ref fS, .ref fP, .ref fT, .ref fA, .ref fQ, .ref fR, .int (nI T.length), .ref fN])), (fS, .inl (cI, 3, (.inl fs))), (fA, .inl (cI, 576, (.inl fz))), (fQ, .inl (cI, 576, (.inl fy))), (fR, .inl (cI, 576, (.inl fw)))] t.heap ∧ va_K (dC, dI) vwCl [(cB, .byte), (cI, .int), (cJ, .long)] t ∧ va_D (va_A [(xSta, .inr (7, [.int (-1), .ref fL, .ref fS, .ref fP, .ref fT, .ref fA, .ref fQ, .ref fR, .int (nI Q.length), .ref fN])), (fS, .inl (cI, 3, (.inl fs))), (fA, .inl (cI, 576, (.inl fa))), (fQ, .inl (cI, 576, (.inl fq))), (fR, .inl (cI, 576, (.inl fr)))] sz) [(xSta, .inr (7, [.int (-1), .ref fL, .ref fS, .ref fP, .ref fT, .ref fA, .ref fQ, .ref fR, .int (nI T.length), .ref fN])), (fS, .inl (cI, 3, (.inl fs))), (fA, .inl (cI, 576, (.inl fz))), (fQ, .inl (cI, 576, (.inl fy))), (fR, .inl (cI, 576, (.inl fw)))]) (va_A [(xSta, .inr (7, [.int (-1), .ref fL, .ref fS, .ref fP, .ref fT, .ref fA, .ref fQ, .ref fR, .int (nI Q.length), .ref fN])), (fS, .inl (cI, 3, (.inl fs))), (fA, .inl (cI, 576, (.inl fa))), (fQ, .inl (cI, 576, (.inl fq))), (fR, .inl (cI, 576, (.inl fr)))] sz)) 0 0 (va_A [(xSta, .inr (7, [.int (-1), .ref fL, .ref fS, .ref fP, .ref fT, .ref fA, .ref fQ, .ref fR, .int (nI Q.length), .ref fN])), (fS, .inl (cI, 3, (.inl fs))), (fA, .inl (cI, 576, (.inl fa))), (fQ, .inl (cI, 576, (.inl fq))), (fR, .inl (cI, 576, (.inl fr)))] sz) := by
  refine Met.ofW (cc := cX7_reachBy) (maxL := 8) (ret := none) (by decide) rfl ?_
  intro p e s m args below meth c s₁ B hml hv
  obtain ⟨rfl, hsz, hP, hK, hD0⟩ := hv
  have hx := B.exec
  have hb := B.bytes
  have hr := B.returns
  have hts := atoms_spec (ws := wsX7_reachBy) B.pre
  have hown : s.vm.findClass RX7 = some m.cls := findClass_of_methodNamed B.named
  have hlocks := B.notSynchronized
  have hiX7 : ∀ w ∈ u_ws RX7 TX7 10, w ∈ wsX7_reachBy := by decide +kernel
  subst hsz
  have hD := hD0.self (sz := s.heap.size)
  generalize hAe : va_A [(xSta, .inr (7, [.int (-1), .ref fL, .ref fS, .ref fP, .ref fT, .ref fA, .ref fQ, .ref fR, .int (nI Q.length), .ref fN])), (fS, .inl (cI, 3, (.inl fs))), (fA, .inl (cI, 576, (.inl fa))), (fQ, .inl (cI, 576, (.inl fq))), (fR, .inl (cI, 576, (.inl fr)))] s.heap.size = A at hD ⊢
  have hA : ∀ q : Nat, s.heap.size ≤ q → A q := fun q h => by rw [← hAe]; exact Or.inr h
  have hS : va_S A s.heap s.heap [] := va_S.rf
  have hP : va_P (dC, dI) vwCl [(xSta, .inr (7, [.int (-1), .ref fL, .ref fS, .ref fP, .ref fT, .ref fA, .ref fQ, .ref fR, .int (nI Q.length), .ref fN])), (fS, .inl (cI, 3, (.inl fs))), (fA, .inl (cI, 576, (.inl fa))), (fQ, .inl (cI, 576, (.inl fq))), (fR, .inl (cI, 576, (.inl fr)))] s.heap := hP
  have hl := lv_entry ([.ref xSta, .int (nI q), .int 1, .int 0]) (n := 8) (Nat.le_of_ble_eq_true rfl)
  rw [lg_entry_eq]
  generalize (lg_sl ([.ref xSta, .int (nI q), .int 1, .int 0]) ++ List.replicate (8 - (lg_sl ([.ref xSta, .int (nI q), .int 1, .int 0])).length) Slot.unset).toArray = ls at hl ⊢
  have hl : lv_has ls 8 [(0, .ref xSta), (1, .int (nI q)), (2, .int 1), (3, .int 0)] := hl
  refine lv_iconst (v := 2) hx hb dX7_reachBy_0 (by decide) ?_
  refine lv_istore (lv' := [(4, .int 2), (0, .ref xSta), (1, .int (nI q)), (2, .int 1), (3, .int 0)]) hx hb dX7_reachBy_1 hl (by decide) rfl (fun ls hl => ?_)
  refine nk_G (fun G inn out => ?_)
  have loop : ∀ (f : Nat) (n : Nat) (P : List qE) (ga : Nat → Int32) (gq : Nat → Int32) (gr : Nat → Int32) (h5 : n + f = 26) (h6 : 2 ≤ n) (h7 : n ≤ 25) (hP0 : P[k]? = some (bx_mk u0 u1 u2, pk, d)) (hPI : q_in V P) (hPR : RC P ga gq) (hPT : q_sees k (d + 1) (nb_n u0 u1 u2 1 0 (25 - n) n) P = T) (H : Heap) (locs : List Loc) (_ : va_P (dC, dI) vwCl [(xSta, .inr (7, [.int (-1), .ref fL, .ref fS, .ref fP, .ref fT, .ref fA, .ref fQ, .ref fR, .int (nI P.length), .ref fN])), (fS, .inl (cI, 3, (.inl fs))), (fA, .inl (cI, 576, (.inl ga))), (fQ, .inl (cI, 576, (.inl gq))), (fR, .inl (cI, 576, (.inl gr)))] H) (_ : va_D A [(xSta, .inr (7, [.int (-1), .ref fL, .ref fS, .ref fP, .ref fT, .ref fA, .ref fQ, .ref fR, .int (nI P.length), .ref fN])), (fS, .inl (cI, 3, (.inl fs))), (fA, .inl (cI, 576, (.inl ga))), (fQ, .inl (cI, 576, (.inl gq))), (fR, .inl (cI, 576, (.inl gr)))]) (_ : va_S A s.heap H locs) (ls : Array Slot) (_ : lv_has ls 8 [(0, .ref xSta), (1, .int (nI q)), (2, .int 1), (3, .int 0), (4, .int (nI n))]), G H locs (F0 m 3 ls []) := by
    intro f
    induction f with
    | zero =>
      intro n P ga gq gr h5 h6 h7 hP0 hPI hPR hPT H locs hP hD hS ls hl
      exfalso; omega
    | succ f ih =>
      intro n P ga gq gr h5 h6 h7 hP0 hPI hPR hPT H locs hP hD hS ls hl
      refine inn _ _ _ ?_
      refine lv_iload hx hb dX7_reachBy_3 (lv_at hl 4 rfl) ?_
      refine lv_bipush (v := 24) hx hb dX7_reachBy_5 (by decide) ?_
      refine lv_icmp_gt (tgt := 165) hx hb dX7_reachBy_7 (by decide) (fun c_1 => ?_) (fun c_1 => ?_)
      · have c_1 : 24 < n := (nI_ltI (a := 24) (b := n) (by omega) (by omega)).mp c_1
        have hPe : P = T := by
          have h9 : 25 - n = 0 := by omega
          rw [h9] at hPT
          exact hPT
        rw [hPe] at hP hD hPR
        have hP : va_P (dC, dI) vwCl [(xSta, .inr (7, [.int (-1), .ref fL, .ref fS, .ref fP, .ref fT, .ref fA, .ref fQ, .ref fR, .int (nI T.length), .ref fN])), (fS, .inl (cI, 3, (.inl fs))), (fA, .inl (cI, 576, (.inl ga))), (fQ, .inl (cI, 576, (.inl gq))), (fR, .inl (cI, 576, (.inl gr)))] H := hP
        have hD : va_D A [(xSta, .inr (7, [.int (-1), .ref fL, .ref fS, .ref fP, .ref fT, .ref fA, .ref fQ, .ref fR, .int (nI T.length), .ref fN])), (fS, .inl (cI, 3, (.inl fs))), (fA, .inl (cI, 576, (.inl ga))), (fQ, .inl (cI, 576, (.inl gq))), (fR, .inl (cI, 576, (.inl gr)))] := hD
        have hP9 := hP.sub (ws' := [(xSta, .inr (7, [.int (-1), .ref fL, .ref fS, .ref fP, .ref fT, .ref fA, .ref fQ, .ref fR, .int (nI T.length), .ref fN])), (fS, .inl (cI, 3, (.inl fs))), (fA, .inl (cI, 576, (.inl ga))), (fQ, .inl (cI, 576, (.inl gq))), (fR, .inl (cI, 576, (.inl gr)))]) [0, 1, 2, 3, 4] rfl
        have hD9 := hD.sub (ws' := [(xSta, .inr (7, [.int (-1), .ref fL, .ref fS, .ref fP, .ref fT, .ref fA, .ref fQ, .ref fR, .int (nI T.length), .ref fN])), (fS, .inl (cI, 3, (.inl fs))), (fA, .inl (cI, 576, (.inl ga))), (fQ, .inl (cI, 576, (.inl gq))), (fR, .inl (cI, 576, (.inl gr)))]) [0, 1, 2, 3, 4] (by decide) rfl
        exact W.vret hx hb hr (fun t ht hW => ⟨⟨(), rfl, trivial, ga, gq, gr, hPR, by rw [ht]; exact hP9, va_K.moved hW.alike hK, hD9⟩, hS.F ht⟩) hS.2.2 dX7_reachBy_165
      · have c_1 : ¬ 24 < n := fun q9 => c_1 ((nI_ltI (a := 24) (b := n) (by omega) (by omega)).mpr q9)
        have hPl : P.length ≤ 576 := Nat.le_trans (q_pre_len (hPT ▸ q_sees_pre k (d + 1) (nb_n u0 u1 u2 1 0 (25 - n) n) P)) hTl
        have hf1 : 25 - n = (25 - (n + 1)) + 1 := by omega
        rw [hf1] at hPT
        have r1 : u1 % n ≤ 24 := Nat.le_trans (Nat.mod_le _ _) (by omega)
        have r2 : u0 % (n - 1) ≤ 24 := Nat.le_trans (Nat.mod_le _ _) (by omega)
        have r3 : u0 / (n - 1) * n ≤ 24 * 24 := Nat.mul_le_mul (Nat.le_trans (Nat.div_le_self _ _) (by omega)) (by omega)
        refine lv_iload_n hx hb dX7_reachBy_10 rfl (lv_at hl 2 rfl) ?_
        refine lv_iload_n hx hb dX7_reachBy_11 rfl (lv_at hl 3 rfl) ?_
        refine lv_icmp_eq (tgt := 165) hx hb dX7_reachBy_12 (by decide) (fun c => absurd c (by decide)) (fun _ => ?_)
        refine lv_aload_n hx hb dX7_reachBy_15 rfl (lv_at hl 0 rfl) ?_
        refine va_get (D := (dC, dI)) (ci := 7) (v := .ref fS) (C := RX7) (T := TX7) (N := 10) hx hb hts hiX7 hown hK hP 0 rfl rfl 2 (by decide) (hts (.fieldLink RX7 19 "ScissorsTable$Stairs" "sides" "[I") (by decide +kernel)) (fun _ h9 => h9) rfl dX7_reachBy_16 ?_
        refine lv_iload_n hx hb dX7_reachBy_19 rfl (lv_at hl 2 rfl) ?_
        refine va_iald hx hb hK hP 1 1 rfl rfl (by show ¬ (_ ∨ _); decide) dX7_reachBy_20 ?_
        refine lv_topi (fun x_2 ex_2 => ?_)
        have ex_2 : x_2 = fs 1 := ex_2
        obtain rfl : x_2 = nI u1 := ex_2.trans hs.2.1
        refine lv_iload hx hb dX7_reachBy_21 (lv_at hl 4 rfl) ?_
        refine lv_irem hx hb dX7_reachBy_23 (nI_ne0 (by omega) (by omega)) ?_
        refine lv_topi (fun x_3 ex_3 => ?_)
        obtain rfl : x_3 = nI (u1 % n) := ex_3.trans (pk_rem (a := u1) (d := n) (by omega) (by omega) (by omega))
        refine lv_if_ne (tgt := 159) hx hb dX7_reachBy_24 (by decide) (fun c_4 => ?_) (fun c_4 => ?_)
        · have c_4 : ¬ (u1 % n) = 0 := fun q9 => c_4 ((nI_eq (a := u1 % n) (b := 0) (by omega) (by omega)).mpr q9)
          obtain ⟨x_5, ex_5⟩ : ∃ y : Int32, y = (nI n) + 1 := ⟨_, rfl⟩
          refine lv_iinc (v := x_5) (lv' := [(4, .int x_5), (0, .ref xSta), (1, .int (nI q)), (2, .int 1), (3, .int 0)]) hx hb dX7_reachBy_159 hl (k := 4) rfl (by rw [ex_5]; rfl) (by decide) rfl (fun ls hl => ?_)
          obtain rfl : x_5 = nI (n + 1) := ex_5.trans (nI_1 n)
          have hl : lv_has ls 8 [(4, .int (nI (n + 1))), (0, .ref xSta), (1, .int (nI q)), (2, .int 1), (3, .int 0)] := hl
          refine lv_goto (tgt := 3) hx hb dX7_reachBy_162 (by decide) ?_
          exact out _ _ _ (ih (n + 1) P ga gq gr (by omega) (by omega) (by omega) hP0 hPI hPR ((congrArg (fun L9 => q_sees k (d + 1) L9 P) (nb_no (fun h9 => c_4 h9.1))).symm.trans hPT) _ _ (hP.sub [0, 1, 2, 3, 4] rfl) (hD.sub [0, 1, 2, 3, 4] (by decide) rfl) hS ls (lv_sub hl [1, 2, 3, 4, 0] rfl))
        · have c_4 : (u1 % n) = 0 := (nI_eq (a := u1 % n) (b := 0) (by omega) (by omega)).mp c_4
          refine lv_aload_n hx hb dX7_reachBy_27 rfl (lv_at hl 0 rfl) ?_
          refine va_get (D := (dC, dI)) (ci := 7) (v := .ref fS) (C := RX7) (T := TX7) (N := 10) hx hb hts hiX7 hown hK hP 0 rfl rfl 2 (by decide) (hts (.fieldLink RX7 19 "ScissorsTable$Stairs" "sides" "[I") (by decide +kernel)) (fun _ h9 => h9) rfl dX7_reachBy_28 ?_
          refine lv_iload_n hx hb dX7_reachBy_31 rfl (lv_at hl 3 rfl) ?_
          refine va_iald hx hb hK hP 1 1 rfl rfl (by show ¬ (_ ∨ _); decide) dX7_reachBy_32 ?_
          refine lv_topi (fun x_6 ex_6 => ?_)
          have ex_6 : x_6 = fs 0 := ex_6
          obtain rfl : x_6 = nI u0 := ex_6.trans hs.1
          refine lv_iload hx hb dX7_reachBy_33 (lv_at hl 4 rfl) ?_
          refine lv_iconst (v := 1) hx hb dX7_reachBy_35 (by decide) ?_
          refine lv_isub hx hb dX7_reachBy_36 ?_
          refine lv_topi (fun x_7 ex_7 => ?_)
          obtain rfl : x_7 = nI (n - 1) := ex_7.trans (pk_sub (a := n) (b := 1) (by omega))
          refine lv_irem hx hb dX7_reachBy_37 (nI_ne0 (by omega) (by omega)) ?_
          refine lv_topi (fun x_8 ex_8 => ?_)
          obtain rfl : x_8 = nI (u0 % (n - 1)) := ex_8.trans (pk_rem (a := u0) (d := n - 1) (by omega) (by omega) (by omega))
          refine lv_if_ne (tgt := 159) hx hb dX7_reachBy_38 (by decide) (fun c_9 => ?_) (fun c_9 => ?_)
          · have c_9 : ¬ (u0 % (n - 1)) = 0 := fun q9 => c_9 ((nI_eq (a := u0 % (n - 1)) (b := 0) (by omega) (by omega)).mpr q9)
            obtain ⟨x_10, ex_10⟩ : ∃ y : Int32, y = (nI n) + 1 := ⟨_, rfl⟩
            refine lv_iinc (v := x_10) (lv' := [(4, .int x_10), (0, .ref xSta), (1, .int (nI q)), (2, .int 1), (3, .int 0)]) hx hb dX7_reachBy_159 hl (k := 4) rfl (by rw [ex_10]; rfl) (by decide) rfl (fun ls hl => ?_)
            obtain rfl : x_10 = nI (n + 1) := ex_10.trans (nI_1 n)
            have hl : lv_has ls 8 [(4, .int (nI (n + 1))), (0, .ref xSta), (1, .int (nI q)), (2, .int 1), (3, .int 0)] := hl
            refine lv_goto (tgt := 3) hx hb dX7_reachBy_162 (by decide) ?_
            exact out _ _ _ (ih (n + 1) P ga gq gr (by omega) (by omega) (by omega) hP0 hPI hPR ((congrArg (fun L9 => q_sees k (d + 1) L9 P) (nb_no (fun h9 => c_9 h9.2.1))).symm.trans hPT) _ _ (hP.sub [0, 1, 2, 3, 4] rfl) (hD.sub [0, 1, 2, 3, 4] (by decide) rfl) hS ls (lv_sub hl [1, 2, 3, 4, 0] rfl))
          · have c_9 : (u0 % (n - 1)) = 0 := (nI_eq (a := u0 % (n - 1)) (b := 0) (by omega) (by omega)).mp c_9
            refine lv_aload_n hx hb dX7_reachBy_41 rfl (lv_at hl 0 rfl) ?_
            refine va_get (D := (dC, dI)) (ci := 7) (v := .ref fS) (C := RX7) (T := TX7) (N := 10) hx hb hts hiX7 hown hK hP 0 rfl rfl 2 (by decide) (hts (.fieldLink RX7 19 "ScissorsTable$Stairs" "sides" "[I") (by decide +kernel)) (fun _ h9 => h9) rfl dX7_reachBy_42 ?_
            refine lv_iload_n hx hb dX7_reachBy_45 rfl (lv_at hl 3 rfl) ?_
            refine va_iald hx hb hK hP 1 1 rfl rfl (by show ¬ (_ ∨ _); decide) dX7_reachBy_46 ?_
            refine lv_topi (fun x_11 ex_11 => ?_)
            have ex_11 : x_11 = fs 0 := ex_11
            obtain rfl : x_11 = nI u0 := ex_11.trans hs.1
            refine lv_iload hx hb dX7_reachBy_47 (lv_at hl 4 rfl) ?_
            refine lv_iconst (v := 1) hx hb dX7_reachBy_49 (by decide) ?_
            refine lv_isub hx hb dX7_reachBy_50 ?_
            refine lv_topi (fun x_12 ex_12 => ?_)
            obtain rfl : x_12 = nI (n - 1) := ex_12.trans (pk_sub (a := n) (b := 1) (by omega))
            refine lv_idiv hx hb dX7_reachBy_51 (nI_ne0 (by omega) (by omega)) ?_
            refine lv_topi (fun x_13 ex_13 => ?_)
            obtain rfl : x_13 = nI (u0 / (n - 1)) := ex_13.trans (pk_div (a := u0) (d := n - 1) (by omega) (by omega) (by omega))
            refine lv_iload hx hb dX7_reachBy_52 (lv_at hl 4 rfl) ?_
            refine lv_imul hx hb dX7_reachBy_54 ?_
            refine lv_topi (fun x_14 ex_14 => ?_)
            obtain rfl : x_14 = nI ((u0 / (n - 1)) * n) := ex_14.trans (pk_mul (u0 / (n - 1)) n)
            refine lv_bipush (v := 24) hx hb dX7_reachBy_55 (by decide) ?_
            refine lv_icmp_gt (tgt := 159) hx hb dX7_reachBy_57 (by decide) (fun c_15 => ?_) (fun c_15 => ?_)
            · have c_15 : 24 < ((u0 / (n - 1)) * n) := (nI_ltI (a := 24) (b := (u0 / (n - 1)) * n) (by omega) (by omega)).mp c_15
              obtain ⟨x_16, ex_16⟩ : ∃ y : Int32, y = (nI n) + 1 := ⟨_, rfl⟩
              refine lv_iinc (v := x_16) (lv' := [(4, .int x_16), (0, .ref xSta), (1, .int (nI q)), (2, .int 1), (3, .int 0)]) hx hb dX7_reachBy_159 hl (k := 4) rfl (by rw [ex_16]; rfl) (by decide) rfl (fun ls hl => ?_)
              obtain rfl : x_16 = nI (n + 1) := ex_16.trans (nI_1 n)
              have hl : lv_has ls 8 [(4, .int (nI (n + 1))), (0, .ref xSta), (1, .int (nI q)), (2, .int 1), (3, .int 0)] := hl
              refine lv_goto (tgt := 3) hx hb dX7_reachBy_162 (by decide) ?_
              exact out _ _ _ (ih (n + 1) P ga gq gr (by omega) (by omega) (by omega) hP0 hPI hPR ((congrArg (fun L9 => q_sees k (d + 1) L9 P) (nb_no (fun h9 => Nat.not_le.mpr c_15 h9.2.2))).symm.trans hPT) _ _ (hP.sub [0, 1, 2, 3, 4] rfl) (hD.sub [0, 1, 2, 3, 4] (by decide) rfl) hS ls (lv_sub hl [1, 2, 3, 4, 0] rfl))
            · have c_15 : ¬ 24 < ((u0 / (n - 1)) * n) := fun q9 => c_15 ((nI_ltI (a := 24) (b := (u0 / (n - 1)) * n) (by omega) (by omega)).mpr q9)
              have o3 : u0 / (n - 1) * n ≤ 24 := Nat.not_lt.mp c_15
              have oo : sd u0 u1 u2 1 % n = 0 ∧ sd u0 u1 u2 0 % (n - 1) = 0 ∧ sd u0 u1 u2 0 / (n - 1) * n ≤ 24 := ⟨c_4, c_9, o3⟩
              have l1 := st_lo h6 (show 1 ≤ u1 by omega) (show u1 ≤ 24 by omega) c_4
              have l2 := st_hi h6 (show 1 ≤ u0 by omega) c_9
              have hgo : bx_in V (st_go u0 u1 u2 1 0 n) := st_go_in hu.1 hu.2.1 hu.2.2 hV (by decide) (by decide) (by decide) h6 (st_ok_iff.mpr oo)
              rw [nb_yes oo] at hPT
              have hPT : q_sees k (d + 1) (nb_n u0 u1 u2 1 0 (25 - (n + 1)) (n + 1)) (q_see P k (d + 1) (st_go u0 u1 u2 1 0 n)) = T := hPT
              refine lv_aload_n hx hb dX7_reachBy_60 rfl (lv_at hl 0 rfl) ?_
              refine lv_iconst (v := 0) hx hb dX7_reachBy_61 (by decide) ?_
              refine lv_iload_n hx hb dX7_reachBy_62 rfl (lv_at hl 2 rfl) ?_
              refine lv_iload_n hx hb dX7_reachBy_63 rfl (lv_at hl 3 rfl) ?_
              refine lv_iload hx hb dX7_reachBy_64 (lv_at hl 4 rfl) ?_
              have hPc := hP.sub (ws' := [(xSta, .inr (7, [.int (-1), .ref fL, .ref fS, .ref fP, .ref fT, .ref fA, .ref fQ, .ref fR, .int (nI P.length), .ref fN])), (fS, .inl (cI, 3, (.inl fs)))]) [0, 1] rfl
              have hDc := hD.sub (ws' := [(xSta, .inr (7, [.int (-1), .ref fL, .ref fS, .ref fP, .ref fT, .ref fA, .ref fQ, .ref fR, .int (nI P.length), .ref fN])), (fS, .inl (cI, 3, (.inl fs)))]) [0, 1] (by decide) rfl
              have hFc := va_free (wc := [(xSta, .inr (7, [.int (-1), .ref fL, .ref fS, .ref fP, .ref fT, .ref fA, .ref fQ, .ref fR, .int (nI P.length), .ref fN])), (fS, .inl (cI, 3, (.inl fs)))]) hD hS hA [0, 1] rfl
              refine va_calli (va_runV (As := [.int 0, .int 1, .int 0, .int (nI n)]) (rest := []) ⟨hx, hb, hml, hown, hts⟩ (c_X7_sideThen_010 l dC dI cB cI cJ H.size xSta fL fS fP fT fA fQ fR fN (nI P.length) fs u0 n hs.1 (by omega) (by omega)) (cwV 4 hts gX7_reachBy_X7_sideThen rfl rfl rfl (by decide +kernel) ⟨Nat.le_of_ble_eq_true rfl, Nat.le_of_ble_eq_true rfl⟩) ⟨fun a U g mk q => by obtain ⟨q0, q1, qP, qK, qD⟩ := q; exact ⟨q0, q1, qP, va_K.moved (u := U) (U := U.calling g mk a) (Vm.Alike.refl U.vm) qK, qD⟩, va_recv hK hP (ci := 7) (q0 := 0) rfl rfl, fun U hU hW => ⟨rfl, by rw [hU], by rw [hU]; exact hPc, va_K.moved hW.alike hK, hDc.weaken (fun _ _ _ _ => trivial)⟩⟩ rfl rfl hl.1 rfl (lv_room (Nat.le_of_ble_eq_true rfl)) dX7_reachBy_66 ⟨Nat.le_of_ble_eq_true rfl, Nat.le_of_ble_eq_true rfl⟩) hS (fun q _ h => hFc q h) hFc (fun r_17 u t H1 locs ht hvm hw hB hz1 hk1 hS => ?_)
              obtain ⟨hP1, hK1, hD1⟩ := hB
              rw [ht] at hP1
              obtain ⟨hP, hD⟩ := va_join (wr := [(fA, .inl (cI, 576, (.inl ga))), (fQ, .inl (cI, 576, (.inl gq))), (fR, .inl (cI, 576, (.inl gr)))]) (w1 := [(xSta, .inr (7, [.int (-1), .ref fL, .ref fS, .ref fP, .ref fT, .ref fA, .ref fQ, .ref fR, .int (nI P.length), .ref fN])), (fS, .inl (cI, 3, (.inl fs)))]) hP hD [0, 1] [2, 3, 4] rfl rfl (by decide) (by decide) hk1 hFc hP1 hD1
              generalize H1 = H at hP hS ⊢
              have hP : va_P (dC, dI) vwCl [(fA, .inl (cI, 576, (.inl ga))), (fQ, .inl (cI, 576, (.inl gq))), (fR, .inl (cI, 576, (.inl gr))), (xSta, .inr (7, [.int (-1), .ref fL, .ref fS, .ref fP, .ref fT, .ref fA, .ref fQ, .ref fR, .int (nI P.length), .ref fN])), (fS, .inl (cI, 3, (.inl fs)))] H := hP
              have hD : va_D A [(fA, .inl (cI, 576, (.inl ga))), (fQ, .inl (cI, 576, (.inl gq))), (fR, .inl (cI, 576, (.inl gr))), (xSta, .inr (7, [.int (-1), .ref fL, .ref fS, .ref fP, .ref fT, .ref fA, .ref fQ, .ref fR, .int (nI P.length), .ref fN])), (fS, .inl (cI, 3, (.inl fs)))] := hD
              obtain rfl : r_17 = nI (u0 / (n - 1) * n) := hw
              refine lv_istore (lv' := [(5, .int (nI (u0 / (n - 1) * n))), (0, .ref xSta), (1, .int (nI q)), (2, .int 1), (3, .int 0), (4, .int (nI n))]) hx hb dX7_reachBy_69 hl (by decide) rfl (fun ls hl => ?_)
              refine lv_aload_n hx hb dX7_reachBy_71 rfl (lv_at hl 1 rfl) ?_
              refine lv_iconst (v := 1) hx hb dX7_reachBy_72 (by decide) ?_
              refine lv_iload_n hx hb dX7_reachBy_73 rfl (lv_at hl 3 rfl) ?_
              refine lv_iload_n hx hb dX7_reachBy_74 rfl (lv_at hl 4 rfl) ?_
              refine lv_iload hx hb dX7_reachBy_75 (lv_at hl 5 rfl) ?_
              have hPc := hP.sub (ws' := [(xSta, .inr (7, [.int (-1), .ref fL, .ref fS, .ref fP, .ref fT, .ref fA, .ref fQ, .ref fR, .int (nI P.length), .ref fN])), (fS, .inl (cI, 3, (.inl fs)))]) [3, 4] rfl
              have hDc := hD.sub (ws' := [(xSta, .inr (7, [.int (-1), .ref fL, .ref fS, .ref fP, .ref fT, .ref fA, .ref fQ, .ref fR, .int (nI P.length), .ref fN])), (fS, .inl (cI, 3, (.inl fs)))]) [3, 4] (by decide) rfl
              have hFc := va_free (wc := [(xSta, .inr (7, [.int (-1), .ref fL, .ref fS, .ref fP, .ref fT, .ref fA, .ref fQ, .ref fR, .int (nI P.length), .ref fN])), (fS, .inl (cI, 3, (.inl fs)))]) hD hS hA [3, 4] rfl
              refine va_calli (va_runV (As := [.int 1, .int 1, .int 0, .int (nI n)]) (rest := []) ⟨hx, hb, hml, hown, hts⟩ (c_X7_sideThen_110 l dC dI cB cI cJ H.size xSta fL fS fP fT fA fQ fR fN (nI P.length) fs u1 n hs.2.1 (by omega) (by omega)) (cwV 4 hts gX7_reachBy_X7_sideThen rfl rfl rfl (by decide +kernel) ⟨Nat.le_of_ble_eq_true rfl, Nat.le_of_ble_eq_true rfl⟩) ⟨fun a U g mk q => by obtain ⟨q0, q1, qP, qK, qD⟩ := q; exact ⟨q0, q1, qP, va_K.moved (u := U) (U := U.calling g mk a) (Vm.Alike.refl U.vm) qK, qD⟩, va_recv hK hP (ci := 7) (q0 := 3) rfl rfl, fun U hU hW => ⟨rfl, by rw [hU], by rw [hU]; exact hPc, va_K.moved hW.alike hK, hDc.weaken (fun _ _ _ _ => trivial)⟩⟩ rfl rfl hl.1 rfl (lv_room (Nat.le_of_ble_eq_true rfl)) dX7_reachBy_77 ⟨Nat.le_of_ble_eq_true rfl, Nat.le_of_ble_eq_true rfl⟩) hS (fun q _ h => hFc q h) hFc (fun r_18 u t H1 locs ht hvm hw hB hz1 hk1 hS => ?_)
              obtain ⟨hP1, hK1, hD1⟩ := hB
              rw [ht] at hP1
              obtain ⟨hP, hD⟩ := va_join (wr := [(fA, .inl (cI, 576, (.inl ga))), (fQ, .inl (cI, 576, (.inl gq))), (fR, .inl (cI, 576, (.inl gr)))]) (w1 := [(xSta, .inr (7, [.int (-1), .ref fL, .ref fS, .ref fP, .ref fT, .ref fA, .ref fQ, .ref fR, .int (nI P.length), .ref fN])), (fS, .inl (cI, 3, (.inl fs)))]) hP hD [3, 4] [0, 1, 2] rfl rfl (by decide) (by decide) hk1 hFc hP1 hD1
              generalize H1 = H at hP hS ⊢
              have hP : va_P (dC, dI) vwCl [(fA, .inl (cI, 576, (.inl ga))), (fQ, .inl (cI, 576, (.inl gq))), (fR, .inl (cI, 576, (.inl gr))), (xSta, .inr (7, [.int (-1), .ref fL, .ref fS, .ref fP, .ref fT, .ref fA, .ref fQ, .ref fR, .int (nI P.length), .ref fN])), (fS, .inl (cI, 3, (.inl fs)))] H := hP
              have hD : va_D A [(fA, .inl (cI, 576, (.inl ga))), (fQ, .inl (cI, 576, (.inl gq))), (fR, .inl (cI, 576, (.inl gr))), (xSta, .inr (7, [.int (-1), .ref fL, .ref fS, .ref fP, .ref fT, .ref fA, .ref fQ, .ref fR, .int (nI P.length), .ref fN])), (fS, .inl (cI, 3, (.inl fs)))] := hD
              obtain rfl : r_18 = nI (u1 / n * (n - 1)) := hw
              refine lv_istore (lv' := [(6, .int (nI (u1 / n * (n - 1)))), (5, .int (nI (u0 / (n - 1) * n))), (0, .ref xSta), (1, .int (nI q)), (2, .int 1), (3, .int 0), (4, .int (nI n))]) hx hb dX7_reachBy_80 hl (by decide) rfl (fun ls hl => ?_)
              refine lv_iload hx hb dX7_reachBy_82 (lv_at hl 1 rfl) ?_
              refine lv_iload hx hb dX7_reachBy_84 (lv_at hl 0 rfl) ?_
              have hPc := hP.sub (ws' := []) [] rfl
              have hDc := hD.sub (ws' := []) [] (by decide) rfl
              have hFc := va_free (wc := []) hD hS hA [] rfl
              refine va_calli (va_runS (As := [.int (nI (u0 / (n - 1) * n)), .int (nI (u1 / n * (n - 1)))]) (rest := []) ⟨hx, hb, hml, hown, hts⟩ (c_X7_boxOf l dC dI cB cI cJ H.size (u0 / (n - 1) * n) (u1 / n * (n - 1)) (by omega) (by omega)) (va_cwS 2 hts gX7_reachBy_X7_boxOf rfl rfl rfl (by decide +kernel) ⟨Nat.le_of_ble_eq_true rfl, Nat.le_of_ble_eq_true rfl⟩) ⟨fun a U g mk q => by obtain ⟨q0, q1, qP, qK, qD⟩ := q; exact ⟨q0, q1, qP, va_K.moved (u := U) (U := U.calling g mk a) (Vm.Alike.refl U.vm) qK, qD⟩, fun U hU hW => ⟨rfl, by rw [hU], by rw [hU]; exact hPc, va_K.moved hW.alike hK, hDc.weaken (fun _ _ _ _ => trivial)⟩⟩ rfl rfl hl.1 rfl (lv_room (Nat.le_of_ble_eq_true rfl)) dX7_reachBy_86 ⟨Nat.le_of_ble_eq_true rfl, Nat.le_of_ble_eq_true rfl⟩) hS (fun q _ h => hFc q h) hFc (fun r_19 u t H1 locs ht hvm hw hB hz1 hk1 hS => ?_)
              have hP1 : va_P (dC, dI) vwCl [] H1 := fun k q h => by simp at h
              have hD1 : va_D (va_A [] H.size) [] := ⟨fun i j p q h => by simp at h, fun k q h => by simp at h⟩
              obtain ⟨hP, hD⟩ := va_join (wr := [(fA, .inl (cI, 576, (.inl ga))), (fQ, .inl (cI, 576, (.inl gq))), (fR, .inl (cI, 576, (.inl gr))), (xSta, .inr (7, [.int (-1), .ref fL, .ref fS, .ref fP, .ref fT, .ref fA, .ref fQ, .ref fR, .int (nI P.length), .ref fN])), (fS, .inl (cI, 3, (.inl fs)))]) (w1 := []) hP hD [] [0, 1, 2, 3, 4] rfl rfl (by decide) (by decide) hk1 hFc hP1 hD1
              generalize H1 = H at hP hS ⊢
              have hP : va_P (dC, dI) vwCl [(fA, .inl (cI, 576, (.inl ga))), (fQ, .inl (cI, 576, (.inl gq))), (fR, .inl (cI, 576, (.inl gr))), (xSta, .inr (7, [.int (-1), .ref fL, .ref fS, .ref fP, .ref fT, .ref fA, .ref fQ, .ref fR, .int (nI P.length), .ref fN])), (fS, .inl (cI, 3, (.inl fs)))] H := hP
              have hD : va_D A [(fA, .inl (cI, 576, (.inl ga))), (fQ, .inl (cI, 576, (.inl gq))), (fR, .inl (cI, 576, (.inl gr))), (xSta, .inr (7, [.int (-1), .ref fL, .ref fS, .ref fP, .ref fT, .ref fA, .ref fQ, .ref fR, .int (nI P.length), .ref fN])), (fS, .inl (cI, 3, (.inl fs)))] := hD
              obtain rfl : r_19 = nI ((u0 / (n - 1) * n - 1) * 24 + (u1 / n * (n - 1) - 1)) := hw
              have hcd : ((u0 / (n - 1) * n) - 1) * 24 + ((u1 / n * (n - 1)) - 1) = bx_cd (st_go u0 u1 u2 1 0 n) := (bx_cd_mk (x := u0 / (n - 1) * n) (y := u1 / n * (n - 1)) (z := u2) (by omega) (by omega)).symm
              rw [hcd]
              have hlt := bx_cd_lt hgo
              refine lv_istore (lv' := [(7, .int (nI (bx_cd (st_go u0 u1 u2 1 0 n)))), (6, .int (nI (u1 / n * (n - 1)))), (5, .int (nI (u0 / (n - 1) * n))), (0, .ref xSta), (1, .int (nI q)), (2, .int 1), (3, .int 0), (4, .int (nI n))]) hx hb dX7_reachBy_89 hl (by decide) rfl (fun ls hl => ?_)
              refine lv_aload_n hx hb dX7_reachBy_91 rfl (lv_at hl 3 rfl) ?_
              refine va_get (D := (dC, dI)) (ci := 7) (v := .ref fA) (C := RX7) (T := TX7) (N := 10) hx hb hts hiX7 hown hK hP 3 rfl rfl 5 (by decide) (hts (.fieldLink RX7 28 "ScissorsTable$Stairs" "ahead" "[I") (by decide +kernel)) (fun _ h9 => h9) rfl dX7_reachBy_92 ?_
              refine lv_iload hx hb dX7_reachBy_95 (lv_at hl 0 rfl) ?_
              refine va_iald hx hb hK hP 0 1 rfl rfl (vp_in_nI (by omega) (by decide)) dX7_reachBy_97 ?_
              refine lv_topi (fun x_20 ex_20 => ?_)
              rw [nI_clamp (show bx_cd (st_go u0 u1 u2 1 0 n) < 2 ^ 31 by omega)] at ex_20
              refine lv_iconst (v := (-1)) hx hb dX7_reachBy_98 (by decide) ?_
              refine lv_icmp_ne (tgt := 159) hx hb dX7_reachBy_99 (by decide) (fun c_21 => ?_) (fun c_21 => ?_)
              · have hh : q_has P (st_go u0 u1 u2 1 0 n) = true := RC_yes hPR hPI hgo (fun q9 => c_21 (ex_20.trans q9))
                rw [q_see_yes hh] at hPT
                obtain ⟨x_22, ex_22⟩ : ∃ y : Int32, y = (nI n) + 1 := ⟨_, rfl⟩
                refine lv_iinc (v := x_22) (lv' := [(4, .int x_22), (7, .int (nI (bx_cd (st_go u0 u1 u2 1 0 n)))), (6, .int (nI (u1 / n * (n - 1)))), (5, .int (nI (u0 / (n - 1) * n))), (0, .ref xSta), (1, .int (nI q)), (2, .int 1), (3, .int 0)]) hx hb dX7_reachBy_159 hl (k := 7) rfl (by rw [ex_22]; rfl) (by decide) rfl (fun ls hl => ?_)
                obtain rfl : x_22 = nI (n + 1) := ex_22.trans (nI_1 n)
                have hl : lv_has ls 8 [(4, .int (nI (n + 1))), (7, .int (nI (bx_cd (st_go u0 u1 u2 1 0 n)))), (6, .int (nI (u1 / n * (n - 1)))), (5, .int (nI (u0 / (n - 1) * n))), (0, .ref xSta), (1, .int (nI q)), (2, .int 1), (3, .int 0)] := hl
                refine lv_goto (tgt := 3) hx hb dX7_reachBy_162 (by decide) ?_
                exact out _ _ _ (ih (n + 1) P ga gq gr (by omega) (by omega) (by omega) hP0 hPI hPR hPT _ _ (hP.sub [3, 4, 0, 1, 2] rfl) (hD.sub [3, 4, 0, 1, 2] (by decide) rfl) hS ls (lv_sub hl [4, 5, 6, 7, 0] rfl))
              · have hh : q_has P (st_go u0 u1 u2 1 0 n) = false := RC_no hPR hPI hgo (ex_20.symm.trans c_21)
                rw [q_see_no hh] at hPT
                have hPl2 : P.length < 576 := by
                  have h9 := Nat.le_trans (q_pre_len (hPT ▸ q_sees_pre k (d + 1) (nb_n u0 u1 u2 1 0 (25 - (n + 1)) (n + 1)) _)) hTl
                  rw [List.length_append] at h9
                  exact h9
                refine lv_aload_n hx hb dX7_reachBy_102 rfl (lv_at hl 3 rfl) ?_
                refine va_get (D := (dC, dI)) (ci := 7) (v := .int (nI P.length)) (C := RX7) (T := TX7) (N := 10) hx hb hts hiX7 hown hK hP 3 rfl rfl 8 (by decide) (hts (.fieldLink RX7 55 "ScissorsTable$Stairs" "queued" "I") (by decide +kernel)) (fun _ h9 => h9) rfl dX7_reachBy_103 ?_
                refine lv_sipush (v := 576) hx hb dX7_reachBy_106 (by decide) ?_
                refine lv_icmp_ge (tgt := 159) hx hb dX7_reachBy_109 (by decide) (fun c_23 => ?_) (fun c_23 => ?_)
                · have c_23 : 576 ≤ P.length := (nI_leI (a := 576) (b := P.length) (by omega) (by omega)).mp c_23
                  exfalso
                  omega
                · have c_23 : ¬ 576 ≤ P.length := fun q9 => c_23 ((nI_leI (a := 576) (b := P.length) (by omega) (by omega)).mpr q9)
                  refine lv_aload_n hx hb dX7_reachBy_112 rfl (lv_at hl 3 rfl) ?_
                  refine va_get (D := (dC, dI)) (ci := 7) (v := .ref fA) (C := RX7) (T := TX7) (N := 10) hx hb hts hiX7 hown hK hP 3 rfl rfl 5 (by decide) (hts (.fieldLink RX7 28 "ScissorsTable$Stairs" "ahead" "[I") (by decide +kernel)) (fun _ h9 => h9) rfl dX7_reachBy_113 ?_
                  refine lv_iload hx hb dX7_reachBy_116 (lv_at hl 0 rfl) ?_
                  refine lv_iload_n hx hb dX7_reachBy_118 rfl (lv_at hl 4 rfl) ?_
                  refine va_iast hx hb hK hP hD hS 0 1 rfl rfl (vp_in_nI (by omega) (by decide)) dX7_reachBy_119 (fun H locs hP hD hS => ?_)
                  rw [nI_clamp (show bx_cd (st_go u0 u1 u2 1 0 n) < 2 ^ 31 by omega)] at hP hD
                  have hP : va_P (dC, dI) vwCl [(fA, .inl (cI, 576, (.inl (upd ga (bx_cd (st_go u0 u1 u2 1 0 n)) (nI q))))), (fQ, .inl (cI, 576, (.inl gq))), (fR, .inl (cI, 576, (.inl gr))), (xSta, .inr (7, [.int (-1), .ref fL, .ref fS, .ref fP, .ref fT, .ref fA, .ref fQ, .ref fR, .int (nI P.length), .ref fN])), (fS, .inl (cI, 3, (.inl fs)))] H := hP
                  have hD : va_D A [(fA, .inl (cI, 576, (.inl (upd ga (bx_cd (st_go u0 u1 u2 1 0 n)) (nI q))))), (fQ, .inl (cI, 576, (.inl gq))), (fR, .inl (cI, 576, (.inl gr))), (xSta, .inr (7, [.int (-1), .ref fL, .ref fS, .ref fP, .ref fT, .ref fA, .ref fQ, .ref fR, .int (nI P.length), .ref fN])), (fS, .inl (cI, 3, (.inl fs)))] := hD
                  refine lv_aload_n hx hb dX7_reachBy_120 rfl (lv_at hl 3 rfl) ?_
                  refine va_get (D := (dC, dI)) (ci := 7) (v := .ref fR) (C := RX7) (T := TX7) (N := 10) hx hb hts hiX7 hown hK hP 3 rfl rfl 7 (by decide) (hts (.fieldLink RX7 34 "ScissorsTable$Stairs" "reached" "[I") (by decide +kernel)) (fun _ h9 => h9) rfl dX7_reachBy_121 ?_
                  refine lv_iload hx hb dX7_reachBy_124 (lv_at hl 0 rfl) ?_
                  refine lv_iload_n hx hb dX7_reachBy_126 rfl (lv_at hl 5 rfl) ?_
                  refine lv_iconst (v := 3) hx hb dX7_reachBy_127 (by decide) ?_
                  refine lv_imul hx hb dX7_reachBy_128 ?_
                  refine lv_topi (fun x_24 ex_24 => ?_)
                  obtain rfl : x_24 = 3 := ex_24.trans (by first | rfl | decide)
                  refine lv_iload_n hx hb dX7_reachBy_129 rfl (lv_at hl 6 rfl) ?_
                  refine lv_iadd hx hb dX7_reachBy_130 ?_
                  refine lv_topi (fun x_25 ex_25 => ?_)
                  obtain rfl : x_25 = 3 := ex_25.trans (by first | rfl | decide)
                  refine lv_bipush (v := 25) hx hb dX7_reachBy_131 (by decide) ?_
                  refine lv_imul hx hb dX7_reachBy_133 ?_
                  refine lv_topi (fun x_26 ex_26 => ?_)
                  obtain rfl : x_26 = 75 := ex_26.trans (by first | rfl | decide)
                  refine lv_iload hx hb dX7_reachBy_134 (lv_at hl 7 rfl) ?_
                  refine lv_iadd hx hb dX7_reachBy_136 ?_
                  refine lv_topi (fun x_27 ex_27 => ?_)
                  obtain rfl : x_27 = nI (75 + n) := ex_27.trans (nI_add 75 n)
                  refine va_iast hx hb hK hP hD hS 2 1 rfl rfl (vp_in_nI (by omega) (by decide)) dX7_reachBy_137 (fun H locs hP hD hS => ?_)
                  rw [nI_clamp (show bx_cd (st_go u0 u1 u2 1 0 n) < 2 ^ 31 by omega)] at hP hD
                  have hP : va_P (dC, dI) vwCl [(fA, .inl (cI, 576, (.inl (upd ga (bx_cd (st_go u0 u1 u2 1 0 n)) (nI q))))), (fQ, .inl (cI, 576, (.inl gq))), (fR, .inl (cI, 576, (.inl (upd gr (bx_cd (st_go u0 u1 u2 1 0 n)) (nI (75 + n)))))), (xSta, .inr (7, [.int (-1), .ref fL, .ref fS, .ref fP, .ref fT, .ref fA, .ref fQ, .ref fR, .int (nI P.length), .ref fN])), (fS, .inl (cI, 3, (.inl fs)))] H := hP
                  have hD : va_D A [(fA, .inl (cI, 576, (.inl (upd ga (bx_cd (st_go u0 u1 u2 1 0 n)) (nI q))))), (fQ, .inl (cI, 576, (.inl gq))), (fR, .inl (cI, 576, (.inl (upd gr (bx_cd (st_go u0 u1 u2 1 0 n)) (nI (75 + n)))))), (xSta, .inr (7, [.int (-1), .ref fL, .ref fS, .ref fP, .ref fT, .ref fA, .ref fQ, .ref fR, .int (nI P.length), .ref fN])), (fS, .inl (cI, 3, (.inl fs)))] := hD
                  refine lv_aload_n hx hb dX7_reachBy_138 rfl (lv_at hl 3 rfl) ?_
                  refine va_get (D := (dC, dI)) (ci := 7) (v := .ref fQ) (C := RX7) (T := TX7) (N := 10) hx hb hts hiX7 hown hK hP 3 rfl rfl 6 (by decide) (hts (.fieldLink RX7 31 "ScissorsTable$Stairs" "queue" "[I") (by decide +kernel)) (fun _ h9 => h9) rfl dX7_reachBy_139 ?_
                  refine lv_aload_n hx hb dX7_reachBy_142 rfl (lv_at hl 3 rfl) ?_
                  refine va_get (D := (dC, dI)) (ci := 7) (v := .int (nI P.length)) (C := RX7) (T := TX7) (N := 10) hx hb hts hiX7 hown hK hP 3 rfl rfl 8 (by decide) (hts (.fieldLink RX7 55 "ScissorsTable$Stairs" "queued" "I") (by decide +kernel)) (fun _ h9 => h9) rfl dX7_reachBy_143 ?_
                  refine lv_iload hx hb dX7_reachBy_146 (lv_at hl 0 rfl) ?_
                  refine va_iast hx hb hK hP hD hS 1 1 rfl rfl (vp_in_nI (by omega) (by decide)) dX7_reachBy_148 (fun H locs hP hD hS => ?_)
                  rw [nI_clamp (show P.length < 2 ^ 31 by omega)] at hP hD
                  have hP : va_P (dC, dI) vwCl [(fA, .inl (cI, 576, (.inl (upd ga (bx_cd (st_go u0 u1 u2 1 0 n)) (nI q))))), (fQ, .inl (cI, 576, (.inl (upd gq P.length (nI (bx_cd (st_go u0 u1 u2 1 0 n))))))), (fR, .inl (cI, 576, (.inl (upd gr (bx_cd (st_go u0 u1 u2 1 0 n)) (nI (75 + n)))))), (xSta, .inr (7, [.int (-1), .ref fL, .ref fS, .ref fP, .ref fT, .ref fA, .ref fQ, .ref fR, .int (nI P.length), .ref fN])), (fS, .inl (cI, 3, (.inl fs)))] H := hP
                  have hD : va_D A [(fA, .inl (cI, 576, (.inl (upd ga (bx_cd (st_go u0 u1 u2 1 0 n)) (nI q))))), (fQ, .inl (cI, 576, (.inl (upd gq P.length (nI (bx_cd (st_go u0 u1 u2 1 0 n))))))), (fR, .inl (cI, 576, (.inl (upd gr (bx_cd (st_go u0 u1 u2 1 0 n)) (nI (75 + n)))))), (xSta, .inr (7, [.int (-1), .ref fL, .ref fS, .ref fP, .ref fT, .ref fA, .ref fQ, .ref fR, .int (nI P.length), .ref fN])), (fS, .inl (cI, 3, (.inl fs)))] := hD
                  refine lv_aload_n hx hb dX7_reachBy_149 rfl (lv_at hl 3 rfl) ?_
                  refine lv_dup hx hb dX7_reachBy_150 rfl ?_
                  refine va_get (D := (dC, dI)) (ci := 7) (v := .int (nI P.length)) (C := RX7) (T := TX7) (N := 10) hx hb hts hiX7 hown hK hP 3 rfl rfl 8 (by decide) (hts (.fieldLink RX7 55 "ScissorsTable$Stairs" "queued" "I") (by decide +kernel)) (fun _ h9 => h9) rfl dX7_reachBy_151 ?_
                  refine lv_iconst (v := 1) hx hb dX7_reachBy_154 (by decide) ?_
                  refine lv_iadd hx hb dX7_reachBy_155 ?_
                  refine lv_topi (fun x_28 ex_28 => ?_)
                  obtain rfl : x_28 = nI (P.length + 1) := ex_28.trans (nI_add P.length 1)
                  rw [show nI (P.length + 1) = nI (P ++ [(st_go u0 u1 u2 1 0 n, k, d + 1)]).length from congrArg nI nk_len]
                  refine va_put (D := (dC, dI)) (ci := 7) (v := .int (nI (P ++ [(st_go u0 u1 u2 1 0 n, k, d + 1)]).length)) (ty := .int) (C := RX7) (T := TX7) (N := 10) hx hb hts hiX7 tyX7 tyX7_ok nmX7 hown hK hP hD hS 3 rfl rfl 8 (by decide) (hts (.fieldLink RX7 55 "ScissorsTable$Stairs" "queued" "I") (by decide +kernel)) (fun _ h9 => h9) rfl (by decide +kernel) rfl rfl (Nat.le_of_ble_eq_true rfl) dX7_reachBy_156 (fun H locs hP hD hS => ?_)
                  have hP : va_P (dC, dI) vwCl [(fA, .inl (cI, 576, (.inl (upd ga (bx_cd (st_go u0 u1 u2 1 0 n)) (nI q))))), (fQ, .inl (cI, 576, (.inl (upd gq P.length (nI (bx_cd (st_go u0 u1 u2 1 0 n))))))), (fR, .inl (cI, 576, (.inl (upd gr (bx_cd (st_go u0 u1 u2 1 0 n)) (nI (75 + n)))))), (xSta, .inr (7, [.int (-1), .ref fL, .ref fS, .ref fP, .ref fT, .ref fA, .ref fQ, .ref fR, .int (nI (P ++ [(st_go u0 u1 u2 1 0 n, k, d + 1)]).length), .ref fN])), (fS, .inl (cI, 3, (.inl fs)))] H := hP
                  have hD : va_D A [(fA, .inl (cI, 576, (.inl (upd ga (bx_cd (st_go u0 u1 u2 1 0 n)) (nI q))))), (fQ, .inl (cI, 576, (.inl (upd gq P.length (nI (bx_cd (st_go u0 u1 u2 1 0 n))))))), (fR, .inl (cI, 576, (.inl (upd gr (bx_cd (st_go u0 u1 u2 1 0 n)) (nI (75 + n)))))), (xSta, .inr (7, [.int (-1), .ref fL, .ref fS, .ref fP, .ref fT, .ref fA, .ref fQ, .ref fR, .int (nI (P ++ [(st_go u0 u1 u2 1 0 n, k, d + 1)]).length), .ref fN])), (fS, .inl (cI, 3, (.inl fs)))] := hD
                  obtain ⟨x_29, ex_29⟩ : ∃ y : Int32, y = (nI n) + 1 := ⟨_, rfl⟩
                  refine lv_iinc (v := x_29) (lv' := [(4, .int x_29), (7, .int (nI (bx_cd (st_go u0 u1 u2 1 0 n)))), (6, .int (nI (u1 / n * (n - 1)))), (5, .int (nI (u0 / (n - 1) * n))), (0, .ref xSta), (1, .int (nI q)), (2, .int 1), (3, .int 0)]) hx hb dX7_reachBy_159 hl (k := 7) rfl (by rw [ex_29]; rfl) (by decide) rfl (fun ls hl => ?_)
                  obtain rfl : x_29 = nI (n + 1) := ex_29.trans (nI_1 n)
                  have hl : lv_has ls 8 [(4, .int (nI (n + 1))), (7, .int (nI (bx_cd (st_go u0 u1 u2 1 0 n)))), (6, .int (nI (u1 / n * (n - 1)))), (5, .int (nI (u0 / (n - 1) * n))), (0, .ref xSta), (1, .int (nI q)), (2, .int 1), (3, .int 0)] := hl
                  refine lv_goto (tgt := 3) hx hb dX7_reachBy_162 (by decide) ?_
                  exact out _ _ _ (ih (n + 1) _ _ _ _ (by omega) (by omega) (by omega) (q_app_old hP0) (by have h9 := q_in_add (k := k) (d := d + 1) hPI hgo; rw [q_see_no hh] at h9; exact h9) (by have h9 := RC_add (d := d + 1) hPR hPI hP0 hgo hh; have h8 : bx_cd ((bx_mk u0 u1 u2, pk, d) : qE).1 = q := hq.symm; rw [h8] at h9; exact h9) hPT _ _ (hP.sub [3, 4, 0, 1, 2] rfl) (hD.sub [3, 4, 0, 1, 2] (by decide) rfl) hS ls (lv_sub hl [4, 5, 6, 7, 0] rfl))
  exact loop 24 2 Q fa fq fr rfl (by omega) (by omega) hk hI hR hT _ _ (hP.sub [0, 1, 2, 3, 4] rfl) (hD.sub [0, 1, 2, 3, 4] (by decide) rfl) hS ls (lv_sub hl [1, 2, 3, 4, 0] rfl)
set_option maxHeartbeats 4000000 in
set_option maxRecDepth 100000 in
theorem c_X7_reachBy_11 (l : Launch) (dC : Nat → ClassId) (dI : Nat → Nat → Nat) (cB cI cJ : ClassId) (sz : Nat) (xSta : Nat) (q : Nat) : Met l yX7_reachBy wsX7_reachBy ({ frames := 1, cells := 0, slots := 0, locals := 24 }) (va_Pc [.ref xSta, .int (nI q), .int 1, .int 1] (fun U => U.heap.size = sz ∧ va_P (dC, dI) vwCl [] U.heap ∧ va_K (dC, dI) vwCl [(cB, .byte), (cI, .int), (cJ, .long)] U ∧ va_D (fun _ => True) [])) (va_Qv (fun _ : Unit => True) (fun _ _ => True) (va_A [] sz)) 0 0 (va_A [] sz) := by
  refine Met.ofW (cc := cX7_reachBy) (maxL := 8) (ret := none) (by decide) rfl ?_
  intro p e s m args below meth c s₁ B hml hv
  obtain ⟨rfl, hsz, hP, hK, hD0⟩ := hv
  have hx := B.exec
  have hb := B.bytes
  have hr := B.returns
  have hts := atoms_spec (ws := wsX7_reachBy) B.pre
  have hown : s.vm.findClass RX7 = some m.cls := findClass_of_methodNamed B.named
  have hlocks := B.notSynchronized
  subst hsz
  have hD := hD0.self (sz := s.heap.size)
  generalize hAe : va_A [] s.heap.size = A at hD ⊢
  have hA : ∀ q : Nat, s.heap.size ≤ q → A q := fun q h => by rw [← hAe]; exact Or.inr h
  have hS : va_S A s.heap s.heap [] := va_S.rf
  have hP : va_P (dC, dI) vwCl [] s.heap := hP
  have hl := lv_entry ([.ref xSta, .int (nI q), .int 1, .int 1]) (n := 8) (Nat.le_of_ble_eq_true rfl)
  rw [lg_entry_eq]
  generalize (lg_sl ([.ref xSta, .int (nI q), .int 1, .int 1]) ++ List.replicate (8 - (lg_sl ([.ref xSta, .int (nI q), .int 1, .int 1])).length) Slot.unset).toArray = ls at hl ⊢
  have hl : lv_has ls 8 [(0, .ref xSta), (1, .int (nI q)), (2, .int 1), (3, .int 1)] := hl
  refine lv_iconst (v := 2) hx hb dX7_reachBy_0 (by decide) ?_
  refine lv_istore (lv' := [(4, .int 2), (0, .ref xSta), (1, .int (nI q)), (2, .int 1), (3, .int 1)]) hx hb dX7_reachBy_1 hl (by decide) rfl (fun ls hl => ?_)
  refine lv_iload hx hb dX7_reachBy_3 (lv_at hl 0 rfl) ?_
  refine lv_bipush (v := 24) hx hb dX7_reachBy_5 (by decide) ?_
  refine lv_icmp_gt (tgt := 165) hx hb dX7_reachBy_7 (by decide) (fun c => absurd c (by decide)) (fun _ => ?_)
  refine lv_iload_n hx hb dX7_reachBy_10 rfl (lv_at hl 3 rfl) ?_
  refine lv_iload_n hx hb dX7_reachBy_11 rfl (lv_at hl 4 rfl) ?_
  refine lv_icmp_eq (tgt := 165) hx hb dX7_reachBy_12 (by decide) (fun _ => ?_) (fun c => absurd (by decide) c)
  refine W.widen (k := 0) (n := 0) (Nat.le_of_ble_eq_true rfl) (Nat.le_of_ble_eq_true rfl) ?_
  exact W.vret hx hb hr (fun t ht hW => ⟨⟨(), rfl, trivial, trivial⟩, hS.F ht⟩) hS.2.2 dX7_reachBy_165
set_option maxHeartbeats 4000000 in
set_option maxRecDepth 100000 in
theorem c_X7_reachBy_12 (l : Launch) (dC : Nat → ClassId) (dI : Nat → Nat → Nat) (cB cI cJ : ClassId) (sz : Nat) (xSta fL fS fP fT fA fQ fR fN : Nat) (Q T : List qE) (fs fa fq fr : Nat → Int32) (V u0 u1 u2 q k pk d : Nat) (hu : (1 ≤ u0 ∧ u0 ≤ 24) ∧ (1 ≤ u1 ∧ u1 ≤ 24) ∧ (1 ≤ u2 ∧ u2 ≤ 24)) (hV : u0 * u1 * u2 = V) (hs : fs 0 = nI u0 ∧ fs 1 = nI u1 ∧ fs 2 = nI u2) (hq : q = bx_cd (bx_mk u0 u1 u2)) (hk : Q[k]? = some (bx_mk u0 u1 u2, pk, d)) (hI : q_in V Q) (hR : RC Q fa fq) (hT : q_sees k (d + 1) (nb_n u0 u1 u2 1 2 23 2) Q = T) (hTl : T.length ≤ 576) : Met l yX7_reachBy wsX7_reachBy ({ frames := 2, cells := 0, slots := 0, locals := 48 }) (va_Pc [.ref xSta, .int (nI q), .int 1, .int 2] (fun U => U.heap.size = sz ∧ va_P (dC, dI) vwCl [(xSta, .inr (7, [.int (-1), .ref fL, .ref fS, .ref fP, .ref fT, .ref fA, .ref fQ, .ref fR, .int (nI Q.length), .ref fN])), (fS, .inl (cI, 3, (.inl fs))), (fA, .inl (cI, 576, (.inl fa))), (fQ, .inl (cI, 576, (.inl fq))), (fR, .inl (cI, 576, (.inl fr)))] U.heap ∧ va_K (dC, dI) vwCl [(cB, .byte), (cI, .int), (cJ, .long)] U ∧ va_D (fun _ => True) [(xSta, .inr (7, [.int (-1), .ref fL, .ref fS, .ref fP, .ref fT, .ref fA, .ref fQ, .ref fR, .int (nI Q.length), .ref fN])), (fS, .inl (cI, 3, (.inl fs))), (fA, .inl (cI, 576, (.inl fa))), (fQ, .inl (cI, 576, (.inl fq))), (fR, .inl (cI, 576, (.inl fr)))])) (va_Qv (fun _ : Unit => True) (fun _ t => ∃ fz : Nat → Int32, ∃ fy : Nat → Int32, ∃ fw : Nat → Int32, RC T fz fy ∧ va_P (dC, dI) vwCl [(xSta, .inr (7, [.int (-1), .ref fL, .ref fS, .ref fP, .ref fT, .ref fA, .ref fQ, .ref fR, .int (nI T.length), .ref fN])), (fS, .inl (cI, 3, (.inl fs))), (fA, .inl (cI, 576, (.inl fz))), (fQ, .inl (cI, 576, (.inl fy))), (fR, .inl (cI, 576, (.inl fw)))] t.heap ∧ va_K (dC, dI) vwCl [(cB, .byte), (cI, .int), (cJ, .long)] t ∧ va_D (va_A [(xSta, .inr (7, [.int (-1), .ref fL, .ref fS, .ref fP, .ref fT, .ref fA, .ref fQ, .ref fR, .int (nI Q.length), .ref fN])), (fS, .inl (cI, 3, (.inl fs))), (fA, .inl (cI, 576, (.inl fa))), (fQ, .inl (cI, 576, (.inl fq))), (fR, .inl (cI, 576, (.inl fr)))] sz) [(xSta, .inr (7, [.int (-1), .ref fL, .ref fS, .ref fP, .ref fT, .ref fA, .ref fQ, .ref fR, .int (nI T.length), .ref fN])), (fS, .inl (cI, 3, (.inl fs))), (fA, .inl (cI, 576, (.inl fz))), (fQ, .inl (cI, 576, (.inl fy))), (fR, .inl (cI, 576, (.inl fw)))]) (va_A [(xSta, .inr (7, [.int (-1), .ref fL, .ref fS, .ref fP, .ref fT, .ref fA, .ref fQ, .ref fR, .int (nI Q.length), .ref fN])), (fS, .inl (cI, 3, (.inl fs))), (fA, .inl (cI, 576, (.inl fa))), (fQ, .inl (cI, 576, (.inl fq))), (fR, .inl (cI, 576, (.inl fr)))] sz)) 0 0 (va_A [(xSta, .inr (7, [.int (-1), .ref fL, .ref fS, .ref fP, .ref fT, .ref fA, .ref fQ, .ref fR, .int (nI Q.length), .ref fN])), (fS, .inl (cI, 3, (.inl fs))), (fA, .inl (cI, 576, (.inl fa))), (fQ, .inl (cI, 576, (.inl fq))), (fR, .inl (cI, 576, (.inl fr)))] sz) := by
  refine Met.ofW (cc := cX7_reachBy) (maxL := 8) (ret := none) (by decide) rfl ?_
  intro p e s m args below meth c s₁ B hml hv
  obtain ⟨rfl, hsz, hP, hK, hD0⟩ := hv
  have hx := B.exec
  have hb := B.bytes
  have hr := B.returns
  have hts := atoms_spec (ws := wsX7_reachBy) B.pre
  have hown : s.vm.findClass RX7 = some m.cls := findClass_of_methodNamed B.named
  have hlocks := B.notSynchronized
  have hiX7 : ∀ w ∈ u_ws RX7 TX7 10, w ∈ wsX7_reachBy := by decide +kernel
  subst hsz
  have hD := hD0.self (sz := s.heap.size)
  generalize hAe : va_A [(xSta, .inr (7, [.int (-1), .ref fL, .ref fS, .ref fP, .ref fT, .ref fA, .ref fQ, .ref fR, .int (nI Q.length), .ref fN])), (fS, .inl (cI, 3, (.inl fs))), (fA, .inl (cI, 576, (.inl fa))), (fQ, .inl (cI, 576, (.inl fq))), (fR, .inl (cI, 576, (.inl fr)))] s.heap.size = A at hD ⊢
  have hA : ∀ q : Nat, s.heap.size ≤ q → A q := fun q h => by rw [← hAe]; exact Or.inr h
  have hS : va_S A s.heap s.heap [] := va_S.rf
  have hP : va_P (dC, dI) vwCl [(xSta, .inr (7, [.int (-1), .ref fL, .ref fS, .ref fP, .ref fT, .ref fA, .ref fQ, .ref fR, .int (nI Q.length), .ref fN])), (fS, .inl (cI, 3, (.inl fs))), (fA, .inl (cI, 576, (.inl fa))), (fQ, .inl (cI, 576, (.inl fq))), (fR, .inl (cI, 576, (.inl fr)))] s.heap := hP
  have hl := lv_entry ([.ref xSta, .int (nI q), .int 1, .int 2]) (n := 8) (Nat.le_of_ble_eq_true rfl)
  rw [lg_entry_eq]
  generalize (lg_sl ([.ref xSta, .int (nI q), .int 1, .int 2]) ++ List.replicate (8 - (lg_sl ([.ref xSta, .int (nI q), .int 1, .int 2])).length) Slot.unset).toArray = ls at hl ⊢
  have hl : lv_has ls 8 [(0, .ref xSta), (1, .int (nI q)), (2, .int 1), (3, .int 2)] := hl
  refine lv_iconst (v := 2) hx hb dX7_reachBy_0 (by decide) ?_
  refine lv_istore (lv' := [(4, .int 2), (0, .ref xSta), (1, .int (nI q)), (2, .int 1), (3, .int 2)]) hx hb dX7_reachBy_1 hl (by decide) rfl (fun ls hl => ?_)
  refine nk_G (fun G inn out => ?_)
  have loop : ∀ (f : Nat) (n : Nat) (P : List qE) (ga : Nat → Int32) (gq : Nat → Int32) (gr : Nat → Int32) (h5 : n + f = 26) (h6 : 2 ≤ n) (h7 : n ≤ 25) (hP0 : P[k]? = some (bx_mk u0 u1 u2, pk, d)) (hPI : q_in V P) (hPR : RC P ga gq) (hPT : q_sees k (d + 1) (nb_n u0 u1 u2 1 2 (25 - n) n) P = T) (H : Heap) (locs : List Loc) (_ : va_P (dC, dI) vwCl [(xSta, .inr (7, [.int (-1), .ref fL, .ref fS, .ref fP, .ref fT, .ref fA, .ref fQ, .ref fR, .int (nI P.length), .ref fN])), (fS, .inl (cI, 3, (.inl fs))), (fA, .inl (cI, 576, (.inl ga))), (fQ, .inl (cI, 576, (.inl gq))), (fR, .inl (cI, 576, (.inl gr)))] H) (_ : va_D A [(xSta, .inr (7, [.int (-1), .ref fL, .ref fS, .ref fP, .ref fT, .ref fA, .ref fQ, .ref fR, .int (nI P.length), .ref fN])), (fS, .inl (cI, 3, (.inl fs))), (fA, .inl (cI, 576, (.inl ga))), (fQ, .inl (cI, 576, (.inl gq))), (fR, .inl (cI, 576, (.inl gr)))]) (_ : va_S A s.heap H locs) (ls : Array Slot) (_ : lv_has ls 8 [(0, .ref xSta), (1, .int (nI q)), (2, .int 1), (3, .int 2), (4, .int (nI n))]), G H locs (F0 m 3 ls []) := by
    intro f
    induction f with
    | zero =>
      intro n P ga gq gr h5 h6 h7 hP0 hPI hPR hPT H locs hP hD hS ls hl
      exfalso; omega
    | succ f ih =>
      intro n P ga gq gr h5 h6 h7 hP0 hPI hPR hPT H locs hP hD hS ls hl
      refine inn _ _ _ ?_
      refine lv_iload hx hb dX7_reachBy_3 (lv_at hl 4 rfl) ?_
      refine lv_bipush (v := 24) hx hb dX7_reachBy_5 (by decide) ?_
      refine lv_icmp_gt (tgt := 165) hx hb dX7_reachBy_7 (by decide) (fun c_1 => ?_) (fun c_1 => ?_)
      · have c_1 : 24 < n := (nI_ltI (a := 24) (b := n) (by omega) (by omega)).mp c_1
        have hPe : P = T := by
          have h9 : 25 - n = 0 := by omega
          rw [h9] at hPT
          exact hPT
        rw [hPe] at hP hD hPR
        have hP : va_P (dC, dI) vwCl [(xSta, .inr (7, [.int (-1), .ref fL, .ref fS, .ref fP, .ref fT, .ref fA, .ref fQ, .ref fR, .int (nI T.length), .ref fN])), (fS, .inl (cI, 3, (.inl fs))), (fA, .inl (cI, 576, (.inl ga))), (fQ, .inl (cI, 576, (.inl gq))), (fR, .inl (cI, 576, (.inl gr)))] H := hP
        have hD : va_D A [(xSta, .inr (7, [.int (-1), .ref fL, .ref fS, .ref fP, .ref fT, .ref fA, .ref fQ, .ref fR, .int (nI T.length), .ref fN])), (fS, .inl (cI, 3, (.inl fs))), (fA, .inl (cI, 576, (.inl ga))), (fQ, .inl (cI, 576, (.inl gq))), (fR, .inl (cI, 576, (.inl gr)))] := hD
        have hP9 := hP.sub (ws' := [(xSta, .inr (7, [.int (-1), .ref fL, .ref fS, .ref fP, .ref fT, .ref fA, .ref fQ, .ref fR, .int (nI T.length), .ref fN])), (fS, .inl (cI, 3, (.inl fs))), (fA, .inl (cI, 576, (.inl ga))), (fQ, .inl (cI, 576, (.inl gq))), (fR, .inl (cI, 576, (.inl gr)))]) [0, 1, 2, 3, 4] rfl
        have hD9 := hD.sub (ws' := [(xSta, .inr (7, [.int (-1), .ref fL, .ref fS, .ref fP, .ref fT, .ref fA, .ref fQ, .ref fR, .int (nI T.length), .ref fN])), (fS, .inl (cI, 3, (.inl fs))), (fA, .inl (cI, 576, (.inl ga))), (fQ, .inl (cI, 576, (.inl gq))), (fR, .inl (cI, 576, (.inl gr)))]) [0, 1, 2, 3, 4] (by decide) rfl
        exact W.vret hx hb hr (fun t ht hW => ⟨⟨(), rfl, trivial, ga, gq, gr, hPR, by rw [ht]; exact hP9, va_K.moved hW.alike hK, hD9⟩, hS.F ht⟩) hS.2.2 dX7_reachBy_165
      · have c_1 : ¬ 24 < n := fun q9 => c_1 ((nI_ltI (a := 24) (b := n) (by omega) (by omega)).mpr q9)
        have hPl : P.length ≤ 576 := Nat.le_trans (q_pre_len (hPT ▸ q_sees_pre k (d + 1) (nb_n u0 u1 u2 1 2 (25 - n) n) P)) hTl
        have hf1 : 25 - n = (25 - (n + 1)) + 1 := by omega
        rw [hf1] at hPT
        have r1 : u1 % n ≤ 24 := Nat.le_trans (Nat.mod_le _ _) (by omega)
        have r2 : u2 % (n - 1) ≤ 24 := Nat.le_trans (Nat.mod_le _ _) (by omega)
        have r3 : u2 / (n - 1) * n ≤ 24 * 24 := Nat.mul_le_mul (Nat.le_trans (Nat.div_le_self _ _) (by omega)) (by omega)
        refine lv_iload_n hx hb dX7_reachBy_10 rfl (lv_at hl 2 rfl) ?_
        refine lv_iload_n hx hb dX7_reachBy_11 rfl (lv_at hl 3 rfl) ?_
        refine lv_icmp_eq (tgt := 165) hx hb dX7_reachBy_12 (by decide) (fun c => absurd c (by decide)) (fun _ => ?_)
        refine lv_aload_n hx hb dX7_reachBy_15 rfl (lv_at hl 0 rfl) ?_
        refine va_get (D := (dC, dI)) (ci := 7) (v := .ref fS) (C := RX7) (T := TX7) (N := 10) hx hb hts hiX7 hown hK hP 0 rfl rfl 2 (by decide) (hts (.fieldLink RX7 19 "ScissorsTable$Stairs" "sides" "[I") (by decide +kernel)) (fun _ h9 => h9) rfl dX7_reachBy_16 ?_
        refine lv_iload_n hx hb dX7_reachBy_19 rfl (lv_at hl 2 rfl) ?_
        refine va_iald hx hb hK hP 1 1 rfl rfl (by show ¬ (_ ∨ _); decide) dX7_reachBy_20 ?_
        refine lv_topi (fun x_2 ex_2 => ?_)
        have ex_2 : x_2 = fs 1 := ex_2
        obtain rfl : x_2 = nI u1 := ex_2.trans hs.2.1
        refine lv_iload hx hb dX7_reachBy_21 (lv_at hl 4 rfl) ?_
        refine lv_irem hx hb dX7_reachBy_23 (nI_ne0 (by omega) (by omega)) ?_
        refine lv_topi (fun x_3 ex_3 => ?_)
        obtain rfl : x_3 = nI (u1 % n) := ex_3.trans (pk_rem (a := u1) (d := n) (by omega) (by omega) (by omega))
        refine lv_if_ne (tgt := 159) hx hb dX7_reachBy_24 (by decide) (fun c_4 => ?_) (fun c_4 => ?_)
        · have c_4 : ¬ (u1 % n) = 0 := fun q9 => c_4 ((nI_eq (a := u1 % n) (b := 0) (by omega) (by omega)).mpr q9)
          obtain ⟨x_5, ex_5⟩ : ∃ y : Int32, y = (nI n) + 1 := ⟨_, rfl⟩
          refine lv_iinc (v := x_5) (lv' := [(4, .int x_5), (0, .ref xSta), (1, .int (nI q)), (2, .int 1), (3, .int 2)]) hx hb dX7_reachBy_159 hl (k := 4) rfl (by rw [ex_5]; rfl) (by decide) rfl (fun ls hl => ?_)
          obtain rfl : x_5 = nI (n + 1) := ex_5.trans (nI_1 n)
          have hl : lv_has ls 8 [(4, .int (nI (n + 1))), (0, .ref xSta), (1, .int (nI q)), (2, .int 1), (3, .int 2)] := hl
          refine lv_goto (tgt := 3) hx hb dX7_reachBy_162 (by decide) ?_
          exact out _ _ _ (ih (n + 1) P ga gq gr (by omega) (by omega) (by omega) hP0 hPI hPR ((congrArg (fun L9 => q_sees k (d + 1) L9 P) (nb_no (fun h9 => c_4 h9.1))).symm.trans hPT) _ _ (hP.sub [0, 1, 2, 3, 4] rfl) (hD.sub [0, 1, 2, 3, 4] (by decide) rfl) hS ls (lv_sub hl [1, 2, 3, 4, 0] rfl))
        · have c_4 : (u1 % n) = 0 := (nI_eq (a := u1 % n) (b := 0) (by omega) (by omega)).mp c_4
          refine lv_aload_n hx hb dX7_reachBy_27 rfl (lv_at hl 0 rfl) ?_
          refine va_get (D := (dC, dI)) (ci := 7) (v := .ref fS) (C := RX7) (T := TX7) (N := 10) hx hb hts hiX7 hown hK hP 0 rfl rfl 2 (by decide) (hts (.fieldLink RX7 19 "ScissorsTable$Stairs" "sides" "[I") (by decide +kernel)) (fun _ h9 => h9) rfl dX7_reachBy_28 ?_
          refine lv_iload_n hx hb dX7_reachBy_31 rfl (lv_at hl 3 rfl) ?_
          refine va_iald hx hb hK hP 1 1 rfl rfl (by show ¬ (_ ∨ _); decide) dX7_reachBy_32 ?_
          refine lv_topi (fun x_6 ex_6 => ?_)
          have ex_6 : x_6 = fs 2 := ex_6
          obtain rfl : x_6 = nI u2 := ex_6.trans hs.2.2
          refine lv_iload hx hb dX7_reachBy_33 (lv_at hl 4 rfl) ?_
          refine lv_iconst (v := 1) hx hb dX7_reachBy_35 (by decide) ?_
          refine lv_isub hx hb dX7_reachBy_36 ?_
          refine lv_topi (fun x_7 ex_7 => ?_)
          obtain rfl : x_7 = nI (n - 1) := ex_7.trans (pk_sub (a := n) (b := 1) (by omega))
          refine lv_irem hx hb dX7_reachBy_37 (nI_ne0 (by omega) (by omega)) ?_
          refine lv_topi (fun x_8 ex_8 => ?_)
          obtain rfl : x_8 = nI (u2 % (n - 1)) := ex_8.trans (pk_rem (a := u2) (d := n - 1) (by omega) (by omega) (by omega))
          refine lv_if_ne (tgt := 159) hx hb dX7_reachBy_38 (by decide) (fun c_9 => ?_) (fun c_9 => ?_)
          · have c_9 : ¬ (u2 % (n - 1)) = 0 := fun q9 => c_9 ((nI_eq (a := u2 % (n - 1)) (b := 0) (by omega) (by omega)).mpr q9)
            obtain ⟨x_10, ex_10⟩ : ∃ y : Int32, y = (nI n) + 1 := ⟨_, rfl⟩
            refine lv_iinc (v := x_10) (lv' := [(4, .int x_10), (0, .ref xSta), (1, .int (nI q)), (2, .int 1), (3, .int 2)]) hx hb dX7_reachBy_159 hl (k := 4) rfl (by rw [ex_10]; rfl) (by decide) rfl (fun ls hl => ?_)
            obtain rfl : x_10 = nI (n + 1) := ex_10.trans (nI_1 n)
            have hl : lv_has ls 8 [(4, .int (nI (n + 1))), (0, .ref xSta), (1, .int (nI q)), (2, .int 1), (3, .int 2)] := hl
            refine lv_goto (tgt := 3) hx hb dX7_reachBy_162 (by decide) ?_
            exact out _ _ _ (ih (n + 1) P ga gq gr (by omega) (by omega) (by omega) hP0 hPI hPR ((congrArg (fun L9 => q_sees k (d + 1) L9 P) (nb_no (fun h9 => c_9 h9.2.1))).symm.trans hPT) _ _ (hP.sub [0, 1, 2, 3, 4] rfl) (hD.sub [0, 1, 2, 3, 4] (by decide) rfl) hS ls (lv_sub hl [1, 2, 3, 4, 0] rfl))
          · have c_9 : (u2 % (n - 1)) = 0 := (nI_eq (a := u2 % (n - 1)) (b := 0) (by omega) (by omega)).mp c_9
            refine lv_aload_n hx hb dX7_reachBy_41 rfl (lv_at hl 0 rfl) ?_
            refine va_get (D := (dC, dI)) (ci := 7) (v := .ref fS) (C := RX7) (T := TX7) (N := 10) hx hb hts hiX7 hown hK hP 0 rfl rfl 2 (by decide) (hts (.fieldLink RX7 19 "ScissorsTable$Stairs" "sides" "[I") (by decide +kernel)) (fun _ h9 => h9) rfl dX7_reachBy_42 ?_
            refine lv_iload_n hx hb dX7_reachBy_45 rfl (lv_at hl 3 rfl) ?_
            refine va_iald hx hb hK hP 1 1 rfl rfl (by show ¬ (_ ∨ _); decide) dX7_reachBy_46 ?_
            refine lv_topi (fun x_11 ex_11 => ?_)
            have ex_11 : x_11 = fs 2 := ex_11
            obtain rfl : x_11 = nI u2 := ex_11.trans hs.2.2
            refine lv_iload hx hb dX7_reachBy_47 (lv_at hl 4 rfl) ?_
            refine lv_iconst (v := 1) hx hb dX7_reachBy_49 (by decide) ?_
            refine lv_isub hx hb dX7_reachBy_50 ?_
            refine lv_topi (fun x_12 ex_12 => ?_)
            obtain rfl : x_12 = nI (n - 1) := ex_12.trans (pk_sub (a := n) (b := 1) (by omega))
            refine lv_idiv hx hb dX7_reachBy_51 (nI_ne0 (by omega) (by omega)) ?_
            refine lv_topi (fun x_13 ex_13 => ?_)
            obtain rfl : x_13 = nI (u2 / (n - 1)) := ex_13.trans (pk_div (a := u2) (d := n - 1) (by omega) (by omega) (by omega))
            refine lv_iload hx hb dX7_reachBy_52 (lv_at hl 4 rfl) ?_
            refine lv_imul hx hb dX7_reachBy_54 ?_
            refine lv_topi (fun x_14 ex_14 => ?_)
            obtain rfl : x_14 = nI ((u2 / (n - 1)) * n) := ex_14.trans (pk_mul (u2 / (n - 1)) n)
            refine lv_bipush (v := 24) hx hb dX7_reachBy_55 (by decide) ?_
            refine lv_icmp_gt (tgt := 159) hx hb dX7_reachBy_57 (by decide) (fun c_15 => ?_) (fun c_15 => ?_)
            · have c_15 : 24 < ((u2 / (n - 1)) * n) := (nI_ltI (a := 24) (b := (u2 / (n - 1)) * n) (by omega) (by omega)).mp c_15
              obtain ⟨x_16, ex_16⟩ : ∃ y : Int32, y = (nI n) + 1 := ⟨_, rfl⟩
              refine lv_iinc (v := x_16) (lv' := [(4, .int x_16), (0, .ref xSta), (1, .int (nI q)), (2, .int 1), (3, .int 2)]) hx hb dX7_reachBy_159 hl (k := 4) rfl (by rw [ex_16]; rfl) (by decide) rfl (fun ls hl => ?_)
              obtain rfl : x_16 = nI (n + 1) := ex_16.trans (nI_1 n)
              have hl : lv_has ls 8 [(4, .int (nI (n + 1))), (0, .ref xSta), (1, .int (nI q)), (2, .int 1), (3, .int 2)] := hl
              refine lv_goto (tgt := 3) hx hb dX7_reachBy_162 (by decide) ?_
              exact out _ _ _ (ih (n + 1) P ga gq gr (by omega) (by omega) (by omega) hP0 hPI hPR ((congrArg (fun L9 => q_sees k (d + 1) L9 P) (nb_no (fun h9 => Nat.not_le.mpr c_15 h9.2.2))).symm.trans hPT) _ _ (hP.sub [0, 1, 2, 3, 4] rfl) (hD.sub [0, 1, 2, 3, 4] (by decide) rfl) hS ls (lv_sub hl [1, 2, 3, 4, 0] rfl))
            · have c_15 : ¬ 24 < ((u2 / (n - 1)) * n) := fun q9 => c_15 ((nI_ltI (a := 24) (b := (u2 / (n - 1)) * n) (by omega) (by omega)).mpr q9)
              have o3 : u2 / (n - 1) * n ≤ 24 := Nat.not_lt.mp c_15
              have oo : sd u0 u1 u2 1 % n = 0 ∧ sd u0 u1 u2 2 % (n - 1) = 0 ∧ sd u0 u1 u2 2 / (n - 1) * n ≤ 24 := ⟨c_4, c_9, o3⟩
              have l1 := st_lo h6 (show 1 ≤ u1 by omega) (show u1 ≤ 24 by omega) c_4
              have l2 := st_hi h6 (show 1 ≤ u2 by omega) c_9
              have hgo : bx_in V (st_go u0 u1 u2 1 2 n) := st_go_in hu.1 hu.2.1 hu.2.2 hV (by decide) (by decide) (by decide) h6 (st_ok_iff.mpr oo)
              rw [nb_yes oo] at hPT
              have hPT : q_sees k (d + 1) (nb_n u0 u1 u2 1 2 (25 - (n + 1)) (n + 1)) (q_see P k (d + 1) (st_go u0 u1 u2 1 2 n)) = T := hPT
              refine lv_aload_n hx hb dX7_reachBy_60 rfl (lv_at hl 0 rfl) ?_
              refine lv_iconst (v := 0) hx hb dX7_reachBy_61 (by decide) ?_
              refine lv_iload_n hx hb dX7_reachBy_62 rfl (lv_at hl 2 rfl) ?_
              refine lv_iload_n hx hb dX7_reachBy_63 rfl (lv_at hl 3 rfl) ?_
              refine lv_iload hx hb dX7_reachBy_64 (lv_at hl 4 rfl) ?_
              have hPc := hP.sub (ws' := [(xSta, .inr (7, [.int (-1), .ref fL, .ref fS, .ref fP, .ref fT, .ref fA, .ref fQ, .ref fR, .int (nI P.length), .ref fN])), (fS, .inl (cI, 3, (.inl fs)))]) [0, 1] rfl
              have hDc := hD.sub (ws' := [(xSta, .inr (7, [.int (-1), .ref fL, .ref fS, .ref fP, .ref fT, .ref fA, .ref fQ, .ref fR, .int (nI P.length), .ref fN])), (fS, .inl (cI, 3, (.inl fs)))]) [0, 1] (by decide) rfl
              have hFc := va_free (wc := [(xSta, .inr (7, [.int (-1), .ref fL, .ref fS, .ref fP, .ref fT, .ref fA, .ref fQ, .ref fR, .int (nI P.length), .ref fN])), (fS, .inl (cI, 3, (.inl fs)))]) hD hS hA [0, 1] rfl
              refine va_calli (va_runV (As := [.int 0, .int 1, .int 2, .int (nI n)]) (rest := []) ⟨hx, hb, hml, hown, hts⟩ (c_X7_sideThen_012 l dC dI cB cI cJ H.size xSta fL fS fP fT fA fQ fR fN (nI P.length) fs u0 n hs.1 (by omega) (by omega)) (cwV 4 hts gX7_reachBy_X7_sideThen rfl rfl rfl (by decide +kernel) ⟨Nat.le_of_ble_eq_true rfl, Nat.le_of_ble_eq_true rfl⟩) ⟨fun a U g mk q => by obtain ⟨q0, q1, qP, qK, qD⟩ := q; exact ⟨q0, q1, qP, va_K.moved (u := U) (U := U.calling g mk a) (Vm.Alike.refl U.vm) qK, qD⟩, va_recv hK hP (ci := 7) (q0 := 0) rfl rfl, fun U hU hW => ⟨rfl, by rw [hU], by rw [hU]; exact hPc, va_K.moved hW.alike hK, hDc.weaken (fun _ _ _ _ => trivial)⟩⟩ rfl rfl hl.1 rfl (lv_room (Nat.le_of_ble_eq_true rfl)) dX7_reachBy_66 ⟨Nat.le_of_ble_eq_true rfl, Nat.le_of_ble_eq_true rfl⟩) hS (fun q _ h => hFc q h) hFc (fun r_17 u t H1 locs ht hvm hw hB hz1 hk1 hS => ?_)
              obtain ⟨hP1, hK1, hD1⟩ := hB
              rw [ht] at hP1
              obtain ⟨hP, hD⟩ := va_join (wr := [(fA, .inl (cI, 576, (.inl ga))), (fQ, .inl (cI, 576, (.inl gq))), (fR, .inl (cI, 576, (.inl gr)))]) (w1 := [(xSta, .inr (7, [.int (-1), .ref fL, .ref fS, .ref fP, .ref fT, .ref fA, .ref fQ, .ref fR, .int (nI P.length), .ref fN])), (fS, .inl (cI, 3, (.inl fs)))]) hP hD [0, 1] [2, 3, 4] rfl rfl (by decide) (by decide) hk1 hFc hP1 hD1
              generalize H1 = H at hP hS ⊢
              have hP : va_P (dC, dI) vwCl [(fA, .inl (cI, 576, (.inl ga))), (fQ, .inl (cI, 576, (.inl gq))), (fR, .inl (cI, 576, (.inl gr))), (xSta, .inr (7, [.int (-1), .ref fL, .ref fS, .ref fP, .ref fT, .ref fA, .ref fQ, .ref fR, .int (nI P.length), .ref fN])), (fS, .inl (cI, 3, (.inl fs)))] H := hP
              have hD : va_D A [(fA, .inl (cI, 576, (.inl ga))), (fQ, .inl (cI, 576, (.inl gq))), (fR, .inl (cI, 576, (.inl gr))), (xSta, .inr (7, [.int (-1), .ref fL, .ref fS, .ref fP, .ref fT, .ref fA, .ref fQ, .ref fR, .int (nI P.length), .ref fN])), (fS, .inl (cI, 3, (.inl fs)))] := hD
              obtain rfl : r_17 = nI (u0) := hw
              refine lv_istore (lv' := [(5, .int (nI (u0))), (0, .ref xSta), (1, .int (nI q)), (2, .int 1), (3, .int 2), (4, .int (nI n))]) hx hb dX7_reachBy_69 hl (by decide) rfl (fun ls hl => ?_)
              refine lv_aload_n hx hb dX7_reachBy_71 rfl (lv_at hl 1 rfl) ?_
              refine lv_iconst (v := 1) hx hb dX7_reachBy_72 (by decide) ?_
              refine lv_iload_n hx hb dX7_reachBy_73 rfl (lv_at hl 3 rfl) ?_
              refine lv_iload_n hx hb dX7_reachBy_74 rfl (lv_at hl 4 rfl) ?_
              refine lv_iload hx hb dX7_reachBy_75 (lv_at hl 5 rfl) ?_
              have hPc := hP.sub (ws' := [(xSta, .inr (7, [.int (-1), .ref fL, .ref fS, .ref fP, .ref fT, .ref fA, .ref fQ, .ref fR, .int (nI P.length), .ref fN])), (fS, .inl (cI, 3, (.inl fs)))]) [3, 4] rfl
              have hDc := hD.sub (ws' := [(xSta, .inr (7, [.int (-1), .ref fL, .ref fS, .ref fP, .ref fT, .ref fA, .ref fQ, .ref fR, .int (nI P.length), .ref fN])), (fS, .inl (cI, 3, (.inl fs)))]) [3, 4] (by decide) rfl
              have hFc := va_free (wc := [(xSta, .inr (7, [.int (-1), .ref fL, .ref fS, .ref fP, .ref fT, .ref fA, .ref fQ, .ref fR, .int (nI P.length), .ref fN])), (fS, .inl (cI, 3, (.inl fs)))]) hD hS hA [3, 4] rfl
              refine va_calli (va_runV (As := [.int 1, .int 1, .int 2, .int (nI n)]) (rest := []) ⟨hx, hb, hml, hown, hts⟩ (c_X7_sideThen_112 l dC dI cB cI cJ H.size xSta fL fS fP fT fA fQ fR fN (nI P.length) fs u1 n hs.2.1 (by omega) (by omega)) (cwV 4 hts gX7_reachBy_X7_sideThen rfl rfl rfl (by decide +kernel) ⟨Nat.le_of_ble_eq_true rfl, Nat.le_of_ble_eq_true rfl⟩) ⟨fun a U g mk q => by obtain ⟨q0, q1, qP, qK, qD⟩ := q; exact ⟨q0, q1, qP, va_K.moved (u := U) (U := U.calling g mk a) (Vm.Alike.refl U.vm) qK, qD⟩, va_recv hK hP (ci := 7) (q0 := 3) rfl rfl, fun U hU hW => ⟨rfl, by rw [hU], by rw [hU]; exact hPc, va_K.moved hW.alike hK, hDc.weaken (fun _ _ _ _ => trivial)⟩⟩ rfl rfl hl.1 rfl (lv_room (Nat.le_of_ble_eq_true rfl)) dX7_reachBy_77 ⟨Nat.le_of_ble_eq_true rfl, Nat.le_of_ble_eq_true rfl⟩) hS (fun q _ h => hFc q h) hFc (fun r_18 u t H1 locs ht hvm hw hB hz1 hk1 hS => ?_)
              obtain ⟨hP1, hK1, hD1⟩ := hB
              rw [ht] at hP1
              obtain ⟨hP, hD⟩ := va_join (wr := [(fA, .inl (cI, 576, (.inl ga))), (fQ, .inl (cI, 576, (.inl gq))), (fR, .inl (cI, 576, (.inl gr)))]) (w1 := [(xSta, .inr (7, [.int (-1), .ref fL, .ref fS, .ref fP, .ref fT, .ref fA, .ref fQ, .ref fR, .int (nI P.length), .ref fN])), (fS, .inl (cI, 3, (.inl fs)))]) hP hD [3, 4] [0, 1, 2] rfl rfl (by decide) (by decide) hk1 hFc hP1 hD1
              generalize H1 = H at hP hS ⊢
              have hP : va_P (dC, dI) vwCl [(fA, .inl (cI, 576, (.inl ga))), (fQ, .inl (cI, 576, (.inl gq))), (fR, .inl (cI, 576, (.inl gr))), (xSta, .inr (7, [.int (-1), .ref fL, .ref fS, .ref fP, .ref fT, .ref fA, .ref fQ, .ref fR, .int (nI P.length), .ref fN])), (fS, .inl (cI, 3, (.inl fs)))] H := hP
              have hD : va_D A [(fA, .inl (cI, 576, (.inl ga))), (fQ, .inl (cI, 576, (.inl gq))), (fR, .inl (cI, 576, (.inl gr))), (xSta, .inr (7, [.int (-1), .ref fL, .ref fS, .ref fP, .ref fT, .ref fA, .ref fQ, .ref fR, .int (nI P.length), .ref fN])), (fS, .inl (cI, 3, (.inl fs)))] := hD
              obtain rfl : r_18 = nI (u1 / n * (n - 1)) := hw
              refine lv_istore (lv' := [(6, .int (nI (u1 / n * (n - 1)))), (5, .int (nI (u0))), (0, .ref xSta), (1, .int (nI q)), (2, .int 1), (3, .int 2), (4, .int (nI n))]) hx hb dX7_reachBy_80 hl (by decide) rfl (fun ls hl => ?_)
              refine lv_iload hx hb dX7_reachBy_82 (lv_at hl 1 rfl) ?_
              refine lv_iload hx hb dX7_reachBy_84 (lv_at hl 0 rfl) ?_
              have hPc := hP.sub (ws' := []) [] rfl
              have hDc := hD.sub (ws' := []) [] (by decide) rfl
              have hFc := va_free (wc := []) hD hS hA [] rfl
              refine va_calli (va_runS (As := [.int (nI (u0)), .int (nI (u1 / n * (n - 1)))]) (rest := []) ⟨hx, hb, hml, hown, hts⟩ (c_X7_boxOf l dC dI cB cI cJ H.size u0 (u1 / n * (n - 1)) (by omega) (by omega)) (va_cwS 2 hts gX7_reachBy_X7_boxOf rfl rfl rfl (by decide +kernel) ⟨Nat.le_of_ble_eq_true rfl, Nat.le_of_ble_eq_true rfl⟩) ⟨fun a U g mk q => by obtain ⟨q0, q1, qP, qK, qD⟩ := q; exact ⟨q0, q1, qP, va_K.moved (u := U) (U := U.calling g mk a) (Vm.Alike.refl U.vm) qK, qD⟩, fun U hU hW => ⟨rfl, by rw [hU], by rw [hU]; exact hPc, va_K.moved hW.alike hK, hDc.weaken (fun _ _ _ _ => trivial)⟩⟩ rfl rfl hl.1 rfl (lv_room (Nat.le_of_ble_eq_true rfl)) dX7_reachBy_86 ⟨Nat.le_of_ble_eq_true rfl, Nat.le_of_ble_eq_true rfl⟩) hS (fun q _ h => hFc q h) hFc (fun r_19 u t H1 locs ht hvm hw hB hz1 hk1 hS => ?_)
              have hP1 : va_P (dC, dI) vwCl [] H1 := fun k q h => by simp at h
              have hD1 : va_D (va_A [] H.size) [] := ⟨fun i j p q h => by simp at h, fun k q h => by simp at h⟩
              obtain ⟨hP, hD⟩ := va_join (wr := [(fA, .inl (cI, 576, (.inl ga))), (fQ, .inl (cI, 576, (.inl gq))), (fR, .inl (cI, 576, (.inl gr))), (xSta, .inr (7, [.int (-1), .ref fL, .ref fS, .ref fP, .ref fT, .ref fA, .ref fQ, .ref fR, .int (nI P.length), .ref fN])), (fS, .inl (cI, 3, (.inl fs)))]) (w1 := []) hP hD [] [0, 1, 2, 3, 4] rfl rfl (by decide) (by decide) hk1 hFc hP1 hD1
              generalize H1 = H at hP hS ⊢
              have hP : va_P (dC, dI) vwCl [(fA, .inl (cI, 576, (.inl ga))), (fQ, .inl (cI, 576, (.inl gq))), (fR, .inl (cI, 576, (.inl gr))), (xSta, .inr (7, [.int (-1), .ref fL, .ref fS, .ref fP, .ref fT, .ref fA, .ref fQ, .ref fR, .int (nI P.length), .ref fN])), (fS, .inl (cI, 3, (.inl fs)))] H := hP
              have hD : va_D A [(fA, .inl (cI, 576, (.inl ga))), (fQ, .inl (cI, 576, (.inl gq))), (fR, .inl (cI, 576, (.inl gr))), (xSta, .inr (7, [.int (-1), .ref fL, .ref fS, .ref fP, .ref fT, .ref fA, .ref fQ, .ref fR, .int (nI P.length), .ref fN])), (fS, .inl (cI, 3, (.inl fs)))] := hD
              obtain rfl : r_19 = nI ((u0 - 1) * 24 + (u1 / n * (n - 1) - 1)) := hw
              have hcd : (u0 - 1) * 24 + ((u1 / n * (n - 1)) - 1) = bx_cd (st_go u0 u1 u2 1 2 n) := (bx_cd_mk (x := u0) (y := u1 / n * (n - 1)) (z := u2 / (n - 1) * n) (by omega) (by omega)).symm
              rw [hcd]
              have hlt := bx_cd_lt hgo
              refine lv_istore (lv' := [(7, .int (nI (bx_cd (st_go u0 u1 u2 1 2 n)))), (6, .int (nI (u1 / n * (n - 1)))), (5, .int (nI (u0))), (0, .ref xSta), (1, .int (nI q)), (2, .int 1), (3, .int 2), (4, .int (nI n))]) hx hb dX7_reachBy_89 hl (by decide) rfl (fun ls hl => ?_)
              refine lv_aload_n hx hb dX7_reachBy_91 rfl (lv_at hl 3 rfl) ?_
              refine va_get (D := (dC, dI)) (ci := 7) (v := .ref fA) (C := RX7) (T := TX7) (N := 10) hx hb hts hiX7 hown hK hP 3 rfl rfl 5 (by decide) (hts (.fieldLink RX7 28 "ScissorsTable$Stairs" "ahead" "[I") (by decide +kernel)) (fun _ h9 => h9) rfl dX7_reachBy_92 ?_
              refine lv_iload hx hb dX7_reachBy_95 (lv_at hl 0 rfl) ?_
              refine va_iald hx hb hK hP 0 1 rfl rfl (vp_in_nI (by omega) (by decide)) dX7_reachBy_97 ?_
              refine lv_topi (fun x_20 ex_20 => ?_)
              rw [nI_clamp (show bx_cd (st_go u0 u1 u2 1 2 n) < 2 ^ 31 by omega)] at ex_20
              refine lv_iconst (v := (-1)) hx hb dX7_reachBy_98 (by decide) ?_
              refine lv_icmp_ne (tgt := 159) hx hb dX7_reachBy_99 (by decide) (fun c_21 => ?_) (fun c_21 => ?_)
              · have hh : q_has P (st_go u0 u1 u2 1 2 n) = true := RC_yes hPR hPI hgo (fun q9 => c_21 (ex_20.trans q9))
                rw [q_see_yes hh] at hPT
                obtain ⟨x_22, ex_22⟩ : ∃ y : Int32, y = (nI n) + 1 := ⟨_, rfl⟩
                refine lv_iinc (v := x_22) (lv' := [(4, .int x_22), (7, .int (nI (bx_cd (st_go u0 u1 u2 1 2 n)))), (6, .int (nI (u1 / n * (n - 1)))), (5, .int (nI (u0))), (0, .ref xSta), (1, .int (nI q)), (2, .int 1), (3, .int 2)]) hx hb dX7_reachBy_159 hl (k := 7) rfl (by rw [ex_22]; rfl) (by decide) rfl (fun ls hl => ?_)
                obtain rfl : x_22 = nI (n + 1) := ex_22.trans (nI_1 n)
                have hl : lv_has ls 8 [(4, .int (nI (n + 1))), (7, .int (nI (bx_cd (st_go u0 u1 u2 1 2 n)))), (6, .int (nI (u1 / n * (n - 1)))), (5, .int (nI (u0))), (0, .ref xSta), (1, .int (nI q)), (2, .int 1), (3, .int 2)] := hl
                refine lv_goto (tgt := 3) hx hb dX7_reachBy_162 (by decide) ?_
                exact out _ _ _ (ih (n + 1) P ga gq gr (by omega) (by omega) (by omega) hP0 hPI hPR hPT _ _ (hP.sub [3, 4, 0, 1, 2] rfl) (hD.sub [3, 4, 0, 1, 2] (by decide) rfl) hS ls (lv_sub hl [4, 5, 6, 7, 0] rfl))
              · have hh : q_has P (st_go u0 u1 u2 1 2 n) = false := RC_no hPR hPI hgo (ex_20.symm.trans c_21)
                rw [q_see_no hh] at hPT
                have hPl2 : P.length < 576 := by
                  have h9 := Nat.le_trans (q_pre_len (hPT ▸ q_sees_pre k (d + 1) (nb_n u0 u1 u2 1 2 (25 - (n + 1)) (n + 1)) _)) hTl
                  rw [List.length_append] at h9
                  exact h9
                refine lv_aload_n hx hb dX7_reachBy_102 rfl (lv_at hl 3 rfl) ?_
                refine va_get (D := (dC, dI)) (ci := 7) (v := .int (nI P.length)) (C := RX7) (T := TX7) (N := 10) hx hb hts hiX7 hown hK hP 3 rfl rfl 8 (by decide) (hts (.fieldLink RX7 55 "ScissorsTable$Stairs" "queued" "I") (by decide +kernel)) (fun _ h9 => h9) rfl dX7_reachBy_103 ?_
                refine lv_sipush (v := 576) hx hb dX7_reachBy_106 (by decide) ?_
                refine lv_icmp_ge (tgt := 159) hx hb dX7_reachBy_109 (by decide) (fun c_23 => ?_) (fun c_23 => ?_)
                · have c_23 : 576 ≤ P.length := (nI_leI (a := 576) (b := P.length) (by omega) (by omega)).mp c_23
                  exfalso
                  omega
                · have c_23 : ¬ 576 ≤ P.length := fun q9 => c_23 ((nI_leI (a := 576) (b := P.length) (by omega) (by omega)).mpr q9)
                  refine lv_aload_n hx hb dX7_reachBy_112 rfl (lv_at hl 3 rfl) ?_
                  refine va_get (D := (dC, dI)) (ci := 7) (v := .ref fA) (C := RX7) (T := TX7) (N := 10) hx hb hts hiX7 hown hK hP 3 rfl rfl 5 (by decide) (hts (.fieldLink RX7 28 "ScissorsTable$Stairs" "ahead" "[I") (by decide +kernel)) (fun _ h9 => h9) rfl dX7_reachBy_113 ?_
                  refine lv_iload hx hb dX7_reachBy_116 (lv_at hl 0 rfl) ?_
                  refine lv_iload_n hx hb dX7_reachBy_118 rfl (lv_at hl 4 rfl) ?_
                  refine va_iast hx hb hK hP hD hS 0 1 rfl rfl (vp_in_nI (by omega) (by decide)) dX7_reachBy_119 (fun H locs hP hD hS => ?_)
                  rw [nI_clamp (show bx_cd (st_go u0 u1 u2 1 2 n) < 2 ^ 31 by omega)] at hP hD
                  have hP : va_P (dC, dI) vwCl [(fA, .inl (cI, 576, (.inl (upd ga (bx_cd (st_go u0 u1 u2 1 2 n)) (nI q))))), (fQ, .inl (cI, 576, (.inl gq))), (fR, .inl (cI, 576, (.inl gr))), (xSta, .inr (7, [.int (-1), .ref fL, .ref fS, .ref fP, .ref fT, .ref fA, .ref fQ, .ref fR, .int (nI P.length), .ref fN])), (fS, .inl (cI, 3, (.inl fs)))] H := hP
                  have hD : va_D A [(fA, .inl (cI, 576, (.inl (upd ga (bx_cd (st_go u0 u1 u2 1 2 n)) (nI q))))), (fQ, .inl (cI, 576, (.inl gq))), (fR, .inl (cI, 576, (.inl gr))), (xSta, .inr (7, [.int (-1), .ref fL, .ref fS, .ref fP, .ref fT, .ref fA, .ref fQ, .ref fR, .int (nI P.length), .ref fN])), (fS, .inl (cI, 3, (.inl fs)))] := hD
                  refine lv_aload_n hx hb dX7_reachBy_120 rfl (lv_at hl 3 rfl) ?_
                  refine va_get (D := (dC, dI)) (ci := 7) (v := .ref fR) (C := RX7) (T := TX7) (N := 10) hx hb hts hiX7 hown hK hP 3 rfl rfl 7 (by decide) (hts (.fieldLink RX7 34 "ScissorsTable$Stairs" "reached" "[I") (by decide +kernel)) (fun _ h9 => h9) rfl dX7_reachBy_121 ?_
                  refine lv_iload hx hb dX7_reachBy_124 (lv_at hl 0 rfl) ?_
                  refine lv_iload_n hx hb dX7_reachBy_126 rfl (lv_at hl 5 rfl) ?_
                  refine lv_iconst (v := 3) hx hb dX7_reachBy_127 (by decide) ?_
                  refine lv_imul hx hb dX7_reachBy_128 ?_
                  refine lv_topi (fun x_24 ex_24 => ?_)
                  obtain rfl : x_24 = 3 := ex_24.trans (by first | rfl | decide)
                  refine lv_iload_n hx hb dX7_reachBy_129 rfl (lv_at hl 6 rfl) ?_
                  refine lv_iadd hx hb dX7_reachBy_130 ?_
                  refine lv_topi (fun x_25 ex_25 => ?_)
                  obtain rfl : x_25 = 5 := ex_25.trans (by first | rfl | decide)
                  refine lv_bipush (v := 25) hx hb dX7_reachBy_131 (by decide) ?_
                  refine lv_imul hx hb dX7_reachBy_133 ?_
                  refine lv_topi (fun x_26 ex_26 => ?_)
                  obtain rfl : x_26 = 125 := ex_26.trans (by first | rfl | decide)
                  refine lv_iload hx hb dX7_reachBy_134 (lv_at hl 7 rfl) ?_
                  refine lv_iadd hx hb dX7_reachBy_136 ?_
                  refine lv_topi (fun x_27 ex_27 => ?_)
                  obtain rfl : x_27 = nI (125 + n) := ex_27.trans (nI_add 125 n)
                  refine va_iast hx hb hK hP hD hS 2 1 rfl rfl (vp_in_nI (by omega) (by decide)) dX7_reachBy_137 (fun H locs hP hD hS => ?_)
                  rw [nI_clamp (show bx_cd (st_go u0 u1 u2 1 2 n) < 2 ^ 31 by omega)] at hP hD
                  have hP : va_P (dC, dI) vwCl [(fA, .inl (cI, 576, (.inl (upd ga (bx_cd (st_go u0 u1 u2 1 2 n)) (nI q))))), (fQ, .inl (cI, 576, (.inl gq))), (fR, .inl (cI, 576, (.inl (upd gr (bx_cd (st_go u0 u1 u2 1 2 n)) (nI (125 + n)))))), (xSta, .inr (7, [.int (-1), .ref fL, .ref fS, .ref fP, .ref fT, .ref fA, .ref fQ, .ref fR, .int (nI P.length), .ref fN])), (fS, .inl (cI, 3, (.inl fs)))] H := hP
                  have hD : va_D A [(fA, .inl (cI, 576, (.inl (upd ga (bx_cd (st_go u0 u1 u2 1 2 n)) (nI q))))), (fQ, .inl (cI, 576, (.inl gq))), (fR, .inl (cI, 576, (.inl (upd gr (bx_cd (st_go u0 u1 u2 1 2 n)) (nI (125 + n)))))), (xSta, .inr (7, [.int (-1), .ref fL, .ref fS, .ref fP, .ref fT, .ref fA, .ref fQ, .ref fR, .int (nI P.length), .ref fN])), (fS, .inl (cI, 3, (.inl fs)))] := hD
                  refine lv_aload_n hx hb dX7_reachBy_138 rfl (lv_at hl 3 rfl) ?_
                  refine va_get (D := (dC, dI)) (ci := 7) (v := .ref fQ) (C := RX7) (T := TX7) (N := 10) hx hb hts hiX7 hown hK hP 3 rfl rfl 6 (by decide) (hts (.fieldLink RX7 31 "ScissorsTable$Stairs" "queue" "[I") (by decide +kernel)) (fun _ h9 => h9) rfl dX7_reachBy_139 ?_
                  refine lv_aload_n hx hb dX7_reachBy_142 rfl (lv_at hl 3 rfl) ?_
                  refine va_get (D := (dC, dI)) (ci := 7) (v := .int (nI P.length)) (C := RX7) (T := TX7) (N := 10) hx hb hts hiX7 hown hK hP 3 rfl rfl 8 (by decide) (hts (.fieldLink RX7 55 "ScissorsTable$Stairs" "queued" "I") (by decide +kernel)) (fun _ h9 => h9) rfl dX7_reachBy_143 ?_
                  refine lv_iload hx hb dX7_reachBy_146 (lv_at hl 0 rfl) ?_
                  refine va_iast hx hb hK hP hD hS 1 1 rfl rfl (vp_in_nI (by omega) (by decide)) dX7_reachBy_148 (fun H locs hP hD hS => ?_)
                  rw [nI_clamp (show P.length < 2 ^ 31 by omega)] at hP hD
                  have hP : va_P (dC, dI) vwCl [(fA, .inl (cI, 576, (.inl (upd ga (bx_cd (st_go u0 u1 u2 1 2 n)) (nI q))))), (fQ, .inl (cI, 576, (.inl (upd gq P.length (nI (bx_cd (st_go u0 u1 u2 1 2 n))))))), (fR, .inl (cI, 576, (.inl (upd gr (bx_cd (st_go u0 u1 u2 1 2 n)) (nI (125 + n)))))), (xSta, .inr (7, [.int (-1), .ref fL, .ref fS, .ref fP, .ref fT, .ref fA, .ref fQ, .ref fR, .int (nI P.length), .ref fN])), (fS, .inl (cI, 3, (.inl fs)))] H := hP
                  have hD : va_D A [(fA, .inl (cI, 576, (.inl (upd ga (bx_cd (st_go u0 u1 u2 1 2 n)) (nI q))))), (fQ, .inl (cI, 576, (.inl (upd gq P.length (nI (bx_cd (st_go u0 u1 u2 1 2 n))))))), (fR, .inl (cI, 576, (.inl (upd gr (bx_cd (st_go u0 u1 u2 1 2 n)) (nI (125 + n)))))), (xSta, .inr (7, [.int (-1), .ref fL, .ref fS, .ref fP, .ref fT, .ref fA, .ref fQ, .ref fR, .int (nI P.length), .ref fN])), (fS, .inl (cI, 3, (.inl fs)))] := hD
                  refine lv_aload_n hx hb dX7_reachBy_149 rfl (lv_at hl 3 rfl) ?_
                  refine lv_dup hx hb dX7_reachBy_150 rfl ?_
                  refine va_get (D := (dC, dI)) (ci := 7) (v := .int (nI P.length)) (C := RX7) (T := TX7) (N := 10) hx hb hts hiX7 hown hK hP 3 rfl rfl 8 (by decide) (hts (.fieldLink RX7 55 "ScissorsTable$Stairs" "queued" "I") (by decide +kernel)) (fun _ h9 => h9) rfl dX7_reachBy_151 ?_
                  refine lv_iconst (v := 1) hx hb dX7_reachBy_154 (by decide) ?_
                  refine lv_iadd hx hb dX7_reachBy_155 ?_
                  refine lv_topi (fun x_28 ex_28 => ?_)
                  obtain rfl : x_28 = nI (P.length + 1) := ex_28.trans (nI_add P.length 1)
                  rw [show nI (P.length + 1) = nI (P ++ [(st_go u0 u1 u2 1 2 n, k, d + 1)]).length from congrArg nI nk_len]
                  refine va_put (D := (dC, dI)) (ci := 7) (v := .int (nI (P ++ [(st_go u0 u1 u2 1 2 n, k, d + 1)]).length)) (ty := .int) (C := RX7) (T := TX7) (N := 10) hx hb hts hiX7 tyX7 tyX7_ok nmX7 hown hK hP hD hS 3 rfl rfl 8 (by decide) (hts (.fieldLink RX7 55 "ScissorsTable$Stairs" "queued" "I") (by decide +kernel)) (fun _ h9 => h9) rfl (by decide +kernel) rfl rfl (Nat.le_of_ble_eq_true rfl) dX7_reachBy_156 (fun H locs hP hD hS => ?_)
                  have hP : va_P (dC, dI) vwCl [(fA, .inl (cI, 576, (.inl (upd ga (bx_cd (st_go u0 u1 u2 1 2 n)) (nI q))))), (fQ, .inl (cI, 576, (.inl (upd gq P.length (nI (bx_cd (st_go u0 u1 u2 1 2 n))))))), (fR, .inl (cI, 576, (.inl (upd gr (bx_cd (st_go u0 u1 u2 1 2 n)) (nI (125 + n)))))), (xSta, .inr (7, [.int (-1), .ref fL, .ref fS, .ref fP, .ref fT, .ref fA, .ref fQ, .ref fR, .int (nI (P ++ [(st_go u0 u1 u2 1 2 n, k, d + 1)]).length), .ref fN])), (fS, .inl (cI, 3, (.inl fs)))] H := hP
                  have hD : va_D A [(fA, .inl (cI, 576, (.inl (upd ga (bx_cd (st_go u0 u1 u2 1 2 n)) (nI q))))), (fQ, .inl (cI, 576, (.inl (upd gq P.length (nI (bx_cd (st_go u0 u1 u2 1 2 n))))))), (fR, .inl (cI, 576, (.inl (upd gr (bx_cd (st_go u0 u1 u2 1 2 n)) (nI (125 + n)))))), (xSta, .inr (7, [.int (-1), .ref fL, .ref fS, .ref fP, .ref fT, .ref fA, .ref fQ, .ref fR, .int (nI (P ++ [(st_go u0 u1 u2 1 2 n, k, d + 1)]).length), .ref fN])), (fS, .inl (cI, 3, (.inl fs)))] := hD
                  obtain ⟨x_29, ex_29⟩ : ∃ y : Int32, y = (nI n) + 1 := ⟨_, rfl⟩
                  refine lv_iinc (v := x_29) (lv' := [(4, .int x_29), (7, .int (nI (bx_cd (st_go u0 u1 u2 1 2 n)))), (6, .int (nI (u1 / n * (n - 1)))), (5, .int (nI (u0))), (0, .ref xSta), (1, .int (nI q)), (2, .int 1), (3, .int 2)]) hx hb dX7_reachBy_159 hl (k := 7) rfl (by rw [ex_29]; rfl) (by decide) rfl (fun ls hl => ?_)
                  obtain rfl : x_29 = nI (n + 1) := ex_29.trans (nI_1 n)
                  have hl : lv_has ls 8 [(4, .int (nI (n + 1))), (7, .int (nI (bx_cd (st_go u0 u1 u2 1 2 n)))), (6, .int (nI (u1 / n * (n - 1)))), (5, .int (nI (u0))), (0, .ref xSta), (1, .int (nI q)), (2, .int 1), (3, .int 2)] := hl
                  refine lv_goto (tgt := 3) hx hb dX7_reachBy_162 (by decide) ?_
                  exact out _ _ _ (ih (n + 1) _ _ _ _ (by omega) (by omega) (by omega) (q_app_old hP0) (by have h9 := q_in_add (k := k) (d := d + 1) hPI hgo; rw [q_see_no hh] at h9; exact h9) (by have h9 := RC_add (d := d + 1) hPR hPI hP0 hgo hh; have h8 : bx_cd ((bx_mk u0 u1 u2, pk, d) : qE).1 = q := hq.symm; rw [h8] at h9; exact h9) hPT _ _ (hP.sub [3, 4, 0, 1, 2] rfl) (hD.sub [3, 4, 0, 1, 2] (by decide) rfl) hS ls (lv_sub hl [4, 5, 6, 7, 0] rfl))
  exact loop 24 2 Q fa fq fr rfl (by omega) (by omega) hk hI hR hT _ _ (hP.sub [0, 1, 2, 3, 4] rfl) (hD.sub [0, 1, 2, 3, 4] (by decide) rfl) hS ls (lv_sub hl [1, 2, 3, 4, 0] rfl)
set_option maxHeartbeats 4000000 in
set_option maxRecDepth 100000 in
theorem c_X7_reachBy_20 (l : Launch) (dC : Nat → ClassId) (dI : Nat → Nat → Nat) (cB cI cJ : ClassId) (sz : Nat) (xSta fL fS fP fT fA fQ fR fN : Nat) (Q T : List qE) (fs fa fq fr : Nat → Int32) (V u0 u1 u2 q k pk d : Nat) (hu : (1 ≤ u0 ∧ u0 ≤ 24) ∧ (1 ≤ u1 ∧ u1 ≤ 24) ∧ (1 ≤ u2 ∧ u2 ≤ 24)) (hV : u0 * u1 * u2 = V) (hs : fs 0 = nI u0 ∧ fs 1 = nI u1 ∧ fs 2 = nI u2) (hq : q = bx_cd (bx_mk u0 u1 u2)) (hk : Q[k]? = some (bx_mk u0 u1 u2, pk, d)) (hI : q_in V Q) (hR : RC Q fa fq) (hT : q_sees k (d + 1) (nb_n u0 u1 u2 2 0 23 2) Q = T) (hTl : T.length ≤ 576) : Met l yX7_reachBy wsX7_reachBy ({ frames := 2, cells := 0, slots := 0, locals := 48 }) (va_Pc [.ref xSta, .int (nI q), .int 2, .int 0] (fun U => U.heap.size = sz ∧ va_P (dC, dI) vwCl [(xSta, .inr (7, [.int (-1), .ref fL, .ref fS, .ref fP, .ref fT, .ref fA, .ref fQ, .ref fR, .int (nI Q.length), .ref fN])), (fS, .inl (cI, 3, (.inl fs))), (fA, .inl (cI, 576, (.inl fa))), (fQ, .inl (cI, 576, (.inl fq))), (fR, .inl (cI, 576, (.inl fr)))] U.heap ∧ va_K (dC, dI) vwCl [(cB, .byte), (cI, .int), (cJ, .long)] U ∧ va_D (fun _ => True) [(xSta, .inr (7, [.int (-1), .ref fL, .ref fS, .ref fP, .ref fT, .ref fA, .ref fQ, .ref fR, .int (nI Q.length), .ref fN])), (fS, .inl (cI, 3, (.inl fs))), (fA, .inl (cI, 576, (.inl fa))), (fQ, .inl (cI, 576, (.inl fq))), (fR, .inl (cI, 576, (.inl fr)))])) (va_Qv (fun _ : Unit => True) (fun _ t => ∃ fz : Nat → Int32, ∃ fy : Nat → Int32, ∃ fw : Nat → Int32, RC T fz fy ∧ va_P (dC, dI) vwCl [(xSta, .inr (7, [.int (-1), .ref fL, .ref fS, .ref fP, .ref fT, .ref fA, .ref fQ, .ref fR, .int (nI T.length), .ref fN])), (fS, .inl (cI, 3, (.inl fs))), (fA, .inl (cI, 576, (.inl fz))), (fQ, .inl (cI, 576, (.inl fy))), (fR, .inl (cI, 576, (.inl fw)))] t.heap ∧ va_K (dC, dI) vwCl [(cB, .byte), (cI, .int), (cJ, .long)] t ∧ va_D (va_A [(xSta, .inr (7, [.int (-1), .ref fL, .ref fS, .ref fP, .ref fT, .ref fA, .ref fQ, .ref fR, .int (nI Q.length), .ref fN])), (fS, .inl (cI, 3, (.inl fs))), (fA, .inl (cI, 576, (.inl fa))), (fQ, .inl (cI, 576, (.inl fq))), (fR, .inl (cI, 576, (.inl fr)))] sz) [(xSta, .inr (7, [.int (-1), .ref fL, .ref fS, .ref fP, .ref fT, .ref fA, .ref fQ, .ref fR, .int (nI T.length), .ref fN])), (fS, .inl (cI, 3, (.inl fs))), (fA, .inl (cI, 576, (.inl fz))), (fQ, .inl (cI, 576, (.inl fy))), (fR, .inl (cI, 576, (.inl fw)))]) (va_A [(xSta, .inr (7, [.int (-1), .ref fL, .ref fS, .ref fP, .ref fT, .ref fA, .ref fQ, .ref fR, .int (nI Q.length), .ref fN])), (fS, .inl (cI, 3, (.inl fs))), (fA, .inl (cI, 576, (.inl fa))), (fQ, .inl (cI, 576, (.inl fq))), (fR, .inl (cI, 576, (.inl fr)))] sz)) 0 0 (va_A [(xSta, .inr (7, [.int (-1), .ref fL, .ref fS, .ref fP, .ref fT, .ref fA, .ref fQ, .ref fR, .int (nI Q.length), .ref fN])), (fS, .inl (cI, 3, (.inl fs))), (fA, .inl (cI, 576, (.inl fa))), (fQ, .inl (cI, 576, (.inl fq))), (fR, .inl (cI, 576, (.inl fr)))] sz) := by
  refine Met.ofW (cc := cX7_reachBy) (maxL := 8) (ret := none) (by decide) rfl ?_
  intro p e s m args below meth c s₁ B hml hv
  obtain ⟨rfl, hsz, hP, hK, hD0⟩ := hv
  have hx := B.exec
  have hb := B.bytes
  have hr := B.returns
  have hts := atoms_spec (ws := wsX7_reachBy) B.pre
  have hown : s.vm.findClass RX7 = some m.cls := findClass_of_methodNamed B.named
  have hlocks := B.notSynchronized
  have hiX7 : ∀ w ∈ u_ws RX7 TX7 10, w ∈ wsX7_reachBy := by decide +kernel
  subst hsz
  have hD := hD0.self (sz := s.heap.size)
  generalize hAe : va_A [(xSta, .inr (7, [.int (-1), .ref fL, .ref fS, .ref fP, .ref fT, .ref fA, .ref fQ, .ref fR, .int (nI Q.length), .ref fN])), (fS, .inl (cI, 3, (.inl fs))), (fA, .inl (cI, 576, (.inl fa))), (fQ, .inl (cI, 576, (.inl fq))), (fR, .inl (cI, 576, (.inl fr)))] s.heap.size = A at hD ⊢
  have hA : ∀ q : Nat, s.heap.size ≤ q → A q := fun q h => by rw [← hAe]; exact Or.inr h
  have hS : va_S A s.heap s.heap [] := va_S.rf
  have hP : va_P (dC, dI) vwCl [(xSta, .inr (7, [.int (-1), .ref fL, .ref fS, .ref fP, .ref fT, .ref fA, .ref fQ, .ref fR, .int (nI Q.length), .ref fN])), (fS, .inl (cI, 3, (.inl fs))), (fA, .inl (cI, 576, (.inl fa))), (fQ, .inl (cI, 576, (.inl fq))), (fR, .inl (cI, 576, (.inl fr)))] s.heap := hP
  have hl := lv_entry ([.ref xSta, .int (nI q), .int 2, .int 0]) (n := 8) (Nat.le_of_ble_eq_true rfl)
  rw [lg_entry_eq]
  generalize (lg_sl ([.ref xSta, .int (nI q), .int 2, .int 0]) ++ List.replicate (8 - (lg_sl ([.ref xSta, .int (nI q), .int 2, .int 0])).length) Slot.unset).toArray = ls at hl ⊢
  have hl : lv_has ls 8 [(0, .ref xSta), (1, .int (nI q)), (2, .int 2), (3, .int 0)] := hl
  refine lv_iconst (v := 2) hx hb dX7_reachBy_0 (by decide) ?_
  refine lv_istore (lv' := [(4, .int 2), (0, .ref xSta), (1, .int (nI q)), (2, .int 2), (3, .int 0)]) hx hb dX7_reachBy_1 hl (by decide) rfl (fun ls hl => ?_)
  refine nk_G (fun G inn out => ?_)
  have loop : ∀ (f : Nat) (n : Nat) (P : List qE) (ga : Nat → Int32) (gq : Nat → Int32) (gr : Nat → Int32) (h5 : n + f = 26) (h6 : 2 ≤ n) (h7 : n ≤ 25) (hP0 : P[k]? = some (bx_mk u0 u1 u2, pk, d)) (hPI : q_in V P) (hPR : RC P ga gq) (hPT : q_sees k (d + 1) (nb_n u0 u1 u2 2 0 (25 - n) n) P = T) (H : Heap) (locs : List Loc) (_ : va_P (dC, dI) vwCl [(xSta, .inr (7, [.int (-1), .ref fL, .ref fS, .ref fP, .ref fT, .ref fA, .ref fQ, .ref fR, .int (nI P.length), .ref fN])), (fS, .inl (cI, 3, (.inl fs))), (fA, .inl (cI, 576, (.inl ga))), (fQ, .inl (cI, 576, (.inl gq))), (fR, .inl (cI, 576, (.inl gr)))] H) (_ : va_D A [(xSta, .inr (7, [.int (-1), .ref fL, .ref fS, .ref fP, .ref fT, .ref fA, .ref fQ, .ref fR, .int (nI P.length), .ref fN])), (fS, .inl (cI, 3, (.inl fs))), (fA, .inl (cI, 576, (.inl ga))), (fQ, .inl (cI, 576, (.inl gq))), (fR, .inl (cI, 576, (.inl gr)))]) (_ : va_S A s.heap H locs) (ls : Array Slot) (_ : lv_has ls 8 [(0, .ref xSta), (1, .int (nI q)), (2, .int 2), (3, .int 0), (4, .int (nI n))]), G H locs (F0 m 3 ls []) := by
    intro f
    induction f with
    | zero =>
      intro n P ga gq gr h5 h6 h7 hP0 hPI hPR hPT H locs hP hD hS ls hl
      exfalso; omega
    | succ f ih =>
      intro n P ga gq gr h5 h6 h7 hP0 hPI hPR hPT H locs hP hD hS ls hl
      refine inn _ _ _ ?_
      refine lv_iload hx hb dX7_reachBy_3 (lv_at hl 4 rfl) ?_
      refine lv_bipush (v := 24) hx hb dX7_reachBy_5 (by decide) ?_
      refine lv_icmp_gt (tgt := 165) hx hb dX7_reachBy_7 (by decide) (fun c_1 => ?_) (fun c_1 => ?_)
      · have c_1 : 24 < n := (nI_ltI (a := 24) (b := n) (by omega) (by omega)).mp c_1
        have hPe : P = T := by
          have h9 : 25 - n = 0 := by omega
          rw [h9] at hPT
          exact hPT
        rw [hPe] at hP hD hPR
        have hP : va_P (dC, dI) vwCl [(xSta, .inr (7, [.int (-1), .ref fL, .ref fS, .ref fP, .ref fT, .ref fA, .ref fQ, .ref fR, .int (nI T.length), .ref fN])), (fS, .inl (cI, 3, (.inl fs))), (fA, .inl (cI, 576, (.inl ga))), (fQ, .inl (cI, 576, (.inl gq))), (fR, .inl (cI, 576, (.inl gr)))] H := hP
        have hD : va_D A [(xSta, .inr (7, [.int (-1), .ref fL, .ref fS, .ref fP, .ref fT, .ref fA, .ref fQ, .ref fR, .int (nI T.length), .ref fN])), (fS, .inl (cI, 3, (.inl fs))), (fA, .inl (cI, 576, (.inl ga))), (fQ, .inl (cI, 576, (.inl gq))), (fR, .inl (cI, 576, (.inl gr)))] := hD
        have hP9 := hP.sub (ws' := [(xSta, .inr (7, [.int (-1), .ref fL, .ref fS, .ref fP, .ref fT, .ref fA, .ref fQ, .ref fR, .int (nI T.length), .ref fN])), (fS, .inl (cI, 3, (.inl fs))), (fA, .inl (cI, 576, (.inl ga))), (fQ, .inl (cI, 576, (.inl gq))), (fR, .inl (cI, 576, (.inl gr)))]) [0, 1, 2, 3, 4] rfl
        have hD9 := hD.sub (ws' := [(xSta, .inr (7, [.int (-1), .ref fL, .ref fS, .ref fP, .ref fT, .ref fA, .ref fQ, .ref fR, .int (nI T.length), .ref fN])), (fS, .inl (cI, 3, (.inl fs))), (fA, .inl (cI, 576, (.inl ga))), (fQ, .inl (cI, 576, (.inl gq))), (fR, .inl (cI, 576, (.inl gr)))]) [0, 1, 2, 3, 4] (by decide) rfl
        exact W.vret hx hb hr (fun t ht hW => ⟨⟨(), rfl, trivial, ga, gq, gr, hPR, by rw [ht]; exact hP9, va_K.moved hW.alike hK, hD9⟩, hS.F ht⟩) hS.2.2 dX7_reachBy_165
      · have c_1 : ¬ 24 < n := fun q9 => c_1 ((nI_ltI (a := 24) (b := n) (by omega) (by omega)).mpr q9)
        have hPl : P.length ≤ 576 := Nat.le_trans (q_pre_len (hPT ▸ q_sees_pre k (d + 1) (nb_n u0 u1 u2 2 0 (25 - n) n) P)) hTl
        have hf1 : 25 - n = (25 - (n + 1)) + 1 := by omega
        rw [hf1] at hPT
        have r1 : u2 % n ≤ 24 := Nat.le_trans (Nat.mod_le _ _) (by omega)
        have r2 : u0 % (n - 1) ≤ 24 := Nat.le_trans (Nat.mod_le _ _) (by omega)
        have r3 : u0 / (n - 1) * n ≤ 24 * 24 := Nat.mul_le_mul (Nat.le_trans (Nat.div_le_self _ _) (by omega)) (by omega)
        refine lv_iload_n hx hb dX7_reachBy_10 rfl (lv_at hl 2 rfl) ?_
        refine lv_iload_n hx hb dX7_reachBy_11 rfl (lv_at hl 3 rfl) ?_
        refine lv_icmp_eq (tgt := 165) hx hb dX7_reachBy_12 (by decide) (fun c => absurd c (by decide)) (fun _ => ?_)
        refine lv_aload_n hx hb dX7_reachBy_15 rfl (lv_at hl 0 rfl) ?_
        refine va_get (D := (dC, dI)) (ci := 7) (v := .ref fS) (C := RX7) (T := TX7) (N := 10) hx hb hts hiX7 hown hK hP 0 rfl rfl 2 (by decide) (hts (.fieldLink RX7 19 "ScissorsTable$Stairs" "sides" "[I") (by decide +kernel)) (fun _ h9 => h9) rfl dX7_reachBy_16 ?_
        refine lv_iload_n hx hb dX7_reachBy_19 rfl (lv_at hl 2 rfl) ?_
        refine va_iald hx hb hK hP 1 1 rfl rfl (by show ¬ (_ ∨ _); decide) dX7_reachBy_20 ?_
        refine lv_topi (fun x_2 ex_2 => ?_)
        have ex_2 : x_2 = fs 2 := ex_2
        obtain rfl : x_2 = nI u2 := ex_2.trans hs.2.2
        refine lv_iload hx hb dX7_reachBy_21 (lv_at hl 4 rfl) ?_
        refine lv_irem hx hb dX7_reachBy_23 (nI_ne0 (by omega) (by omega)) ?_
        refine lv_topi (fun x_3 ex_3 => ?_)
        obtain rfl : x_3 = nI (u2 % n) := ex_3.trans (pk_rem (a := u2) (d := n) (by omega) (by omega) (by omega))
        refine lv_if_ne (tgt := 159) hx hb dX7_reachBy_24 (by decide) (fun c_4 => ?_) (fun c_4 => ?_)
        · have c_4 : ¬ (u2 % n) = 0 := fun q9 => c_4 ((nI_eq (a := u2 % n) (b := 0) (by omega) (by omega)).mpr q9)
          obtain ⟨x_5, ex_5⟩ : ∃ y : Int32, y = (nI n) + 1 := ⟨_, rfl⟩
          refine lv_iinc (v := x_5) (lv' := [(4, .int x_5), (0, .ref xSta), (1, .int (nI q)), (2, .int 2), (3, .int 0)]) hx hb dX7_reachBy_159 hl (k := 4) rfl (by rw [ex_5]; rfl) (by decide) rfl (fun ls hl => ?_)
          obtain rfl : x_5 = nI (n + 1) := ex_5.trans (nI_1 n)
          have hl : lv_has ls 8 [(4, .int (nI (n + 1))), (0, .ref xSta), (1, .int (nI q)), (2, .int 2), (3, .int 0)] := hl
          refine lv_goto (tgt := 3) hx hb dX7_reachBy_162 (by decide) ?_
          exact out _ _ _ (ih (n + 1) P ga gq gr (by omega) (by omega) (by omega) hP0 hPI hPR ((congrArg (fun L9 => q_sees k (d + 1) L9 P) (nb_no (fun h9 => c_4 h9.1))).symm.trans hPT) _ _ (hP.sub [0, 1, 2, 3, 4] rfl) (hD.sub [0, 1, 2, 3, 4] (by decide) rfl) hS ls (lv_sub hl [1, 2, 3, 4, 0] rfl))
        · have c_4 : (u2 % n) = 0 := (nI_eq (a := u2 % n) (b := 0) (by omega) (by omega)).mp c_4
          refine lv_aload_n hx hb dX7_reachBy_27 rfl (lv_at hl 0 rfl) ?_
          refine va_get (D := (dC, dI)) (ci := 7) (v := .ref fS) (C := RX7) (T := TX7) (N := 10) hx hb hts hiX7 hown hK hP 0 rfl rfl 2 (by decide) (hts (.fieldLink RX7 19 "ScissorsTable$Stairs" "sides" "[I") (by decide +kernel)) (fun _ h9 => h9) rfl dX7_reachBy_28 ?_
          refine lv_iload_n hx hb dX7_reachBy_31 rfl (lv_at hl 3 rfl) ?_
          refine va_iald hx hb hK hP 1 1 rfl rfl (by show ¬ (_ ∨ _); decide) dX7_reachBy_32 ?_
          refine lv_topi (fun x_6 ex_6 => ?_)
          have ex_6 : x_6 = fs 0 := ex_6
          obtain rfl : x_6 = nI u0 := ex_6.trans hs.1
          refine lv_iload hx hb dX7_reachBy_33 (lv_at hl 4 rfl) ?_
          refine lv_iconst (v := 1) hx hb dX7_reachBy_35 (by decide) ?_
          refine lv_isub hx hb dX7_reachBy_36 ?_
          refine lv_topi (fun x_7 ex_7 => ?_)
          obtain rfl : x_7 = nI (n - 1) := ex_7.trans (pk_sub (a := n) (b := 1) (by omega))
          refine lv_irem hx hb dX7_reachBy_37 (nI_ne0 (by omega) (by omega)) ?_
          refine lv_topi (fun x_8 ex_8 => ?_)
          obtain rfl : x_8 = nI (u0 % (n - 1)) := ex_8.trans (pk_rem (a := u0) (d := n - 1) (by omega) (by omega) (by omega))
          refine lv_if_ne (tgt := 159) hx hb dX7_reachBy_38 (by decide) (fun c_9 => ?_) (fun c_9 => ?_)
          · have c_9 : ¬ (u0 % (n - 1)) = 0 := fun q9 => c_9 ((nI_eq (a := u0 % (n - 1)) (b := 0) (by omega) (by omega)).mpr q9)
            obtain ⟨x_10, ex_10⟩ : ∃ y : Int32, y = (nI n) + 1 := ⟨_, rfl⟩
            refine lv_iinc (v := x_10) (lv' := [(4, .int x_10), (0, .ref xSta), (1, .int (nI q)), (2, .int 2), (3, .int 0)]) hx hb dX7_reachBy_159 hl (k := 4) rfl (by rw [ex_10]; rfl) (by decide) rfl (fun ls hl => ?_)
            obtain rfl : x_10 = nI (n + 1) := ex_10.trans (nI_1 n)
            have hl : lv_has ls 8 [(4, .int (nI (n + 1))), (0, .ref xSta), (1, .int (nI q)), (2, .int 2), (3, .int 0)] := hl
            refine lv_goto (tgt := 3) hx hb dX7_reachBy_162 (by decide) ?_
            exact out _ _ _ (ih (n + 1) P ga gq gr (by omega) (by omega) (by omega) hP0 hPI hPR ((congrArg (fun L9 => q_sees k (d + 1) L9 P) (nb_no (fun h9 => c_9 h9.2.1))).symm.trans hPT) _ _ (hP.sub [0, 1, 2, 3, 4] rfl) (hD.sub [0, 1, 2, 3, 4] (by decide) rfl) hS ls (lv_sub hl [1, 2, 3, 4, 0] rfl))
          · have c_9 : (u0 % (n - 1)) = 0 := (nI_eq (a := u0 % (n - 1)) (b := 0) (by omega) (by omega)).mp c_9
            refine lv_aload_n hx hb dX7_reachBy_41 rfl (lv_at hl 0 rfl) ?_
            refine va_get (D := (dC, dI)) (ci := 7) (v := .ref fS) (C := RX7) (T := TX7) (N := 10) hx hb hts hiX7 hown hK hP 0 rfl rfl 2 (by decide) (hts (.fieldLink RX7 19 "ScissorsTable$Stairs" "sides" "[I") (by decide +kernel)) (fun _ h9 => h9) rfl dX7_reachBy_42 ?_
            refine lv_iload_n hx hb dX7_reachBy_45 rfl (lv_at hl 3 rfl) ?_
            refine va_iald hx hb hK hP 1 1 rfl rfl (by show ¬ (_ ∨ _); decide) dX7_reachBy_46 ?_
            refine lv_topi (fun x_11 ex_11 => ?_)
            have ex_11 : x_11 = fs 0 := ex_11
            obtain rfl : x_11 = nI u0 := ex_11.trans hs.1
            refine lv_iload hx hb dX7_reachBy_47 (lv_at hl 4 rfl) ?_
            refine lv_iconst (v := 1) hx hb dX7_reachBy_49 (by decide) ?_
            refine lv_isub hx hb dX7_reachBy_50 ?_
            refine lv_topi (fun x_12 ex_12 => ?_)
            obtain rfl : x_12 = nI (n - 1) := ex_12.trans (pk_sub (a := n) (b := 1) (by omega))
            refine lv_idiv hx hb dX7_reachBy_51 (nI_ne0 (by omega) (by omega)) ?_
            refine lv_topi (fun x_13 ex_13 => ?_)
            obtain rfl : x_13 = nI (u0 / (n - 1)) := ex_13.trans (pk_div (a := u0) (d := n - 1) (by omega) (by omega) (by omega))
            refine lv_iload hx hb dX7_reachBy_52 (lv_at hl 4 rfl) ?_
            refine lv_imul hx hb dX7_reachBy_54 ?_
            refine lv_topi (fun x_14 ex_14 => ?_)
            obtain rfl : x_14 = nI ((u0 / (n - 1)) * n) := ex_14.trans (pk_mul (u0 / (n - 1)) n)
            refine lv_bipush (v := 24) hx hb dX7_reachBy_55 (by decide) ?_
            refine lv_icmp_gt (tgt := 159) hx hb dX7_reachBy_57 (by decide) (fun c_15 => ?_) (fun c_15 => ?_)
            · have c_15 : 24 < ((u0 / (n - 1)) * n) := (nI_ltI (a := 24) (b := (u0 / (n - 1)) * n) (by omega) (by omega)).mp c_15
              obtain ⟨x_16, ex_16⟩ : ∃ y : Int32, y = (nI n) + 1 := ⟨_, rfl⟩
              refine lv_iinc (v := x_16) (lv' := [(4, .int x_16), (0, .ref xSta), (1, .int (nI q)), (2, .int 2), (3, .int 0)]) hx hb dX7_reachBy_159 hl (k := 4) rfl (by rw [ex_16]; rfl) (by decide) rfl (fun ls hl => ?_)
              obtain rfl : x_16 = nI (n + 1) := ex_16.trans (nI_1 n)
              have hl : lv_has ls 8 [(4, .int (nI (n + 1))), (0, .ref xSta), (1, .int (nI q)), (2, .int 2), (3, .int 0)] := hl
              refine lv_goto (tgt := 3) hx hb dX7_reachBy_162 (by decide) ?_
              exact out _ _ _ (ih (n + 1) P ga gq gr (by omega) (by omega) (by omega) hP0 hPI hPR ((congrArg (fun L9 => q_sees k (d + 1) L9 P) (nb_no (fun h9 => Nat.not_le.mpr c_15 h9.2.2))).symm.trans hPT) _ _ (hP.sub [0, 1, 2, 3, 4] rfl) (hD.sub [0, 1, 2, 3, 4] (by decide) rfl) hS ls (lv_sub hl [1, 2, 3, 4, 0] rfl))
            · have c_15 : ¬ 24 < ((u0 / (n - 1)) * n) := fun q9 => c_15 ((nI_ltI (a := 24) (b := (u0 / (n - 1)) * n) (by omega) (by omega)).mpr q9)
              have o3 : u0 / (n - 1) * n ≤ 24 := Nat.not_lt.mp c_15
              have oo : sd u0 u1 u2 2 % n = 0 ∧ sd u0 u1 u2 0 % (n - 1) = 0 ∧ sd u0 u1 u2 0 / (n - 1) * n ≤ 24 := ⟨c_4, c_9, o3⟩
              have l1 := st_lo h6 (show 1 ≤ u2 by omega) (show u2 ≤ 24 by omega) c_4
              have l2 := st_hi h6 (show 1 ≤ u0 by omega) c_9
              have hgo : bx_in V (st_go u0 u1 u2 2 0 n) := st_go_in hu.1 hu.2.1 hu.2.2 hV (by decide) (by decide) (by decide) h6 (st_ok_iff.mpr oo)
              rw [nb_yes oo] at hPT
              have hPT : q_sees k (d + 1) (nb_n u0 u1 u2 2 0 (25 - (n + 1)) (n + 1)) (q_see P k (d + 1) (st_go u0 u1 u2 2 0 n)) = T := hPT
              refine lv_aload_n hx hb dX7_reachBy_60 rfl (lv_at hl 0 rfl) ?_
              refine lv_iconst (v := 0) hx hb dX7_reachBy_61 (by decide) ?_
              refine lv_iload_n hx hb dX7_reachBy_62 rfl (lv_at hl 2 rfl) ?_
              refine lv_iload_n hx hb dX7_reachBy_63 rfl (lv_at hl 3 rfl) ?_
              refine lv_iload hx hb dX7_reachBy_64 (lv_at hl 4 rfl) ?_
              have hPc := hP.sub (ws' := [(xSta, .inr (7, [.int (-1), .ref fL, .ref fS, .ref fP, .ref fT, .ref fA, .ref fQ, .ref fR, .int (nI P.length), .ref fN])), (fS, .inl (cI, 3, (.inl fs)))]) [0, 1] rfl
              have hDc := hD.sub (ws' := [(xSta, .inr (7, [.int (-1), .ref fL, .ref fS, .ref fP, .ref fT, .ref fA, .ref fQ, .ref fR, .int (nI P.length), .ref fN])), (fS, .inl (cI, 3, (.inl fs)))]) [0, 1] (by decide) rfl
              have hFc := va_free (wc := [(xSta, .inr (7, [.int (-1), .ref fL, .ref fS, .ref fP, .ref fT, .ref fA, .ref fQ, .ref fR, .int (nI P.length), .ref fN])), (fS, .inl (cI, 3, (.inl fs)))]) hD hS hA [0, 1] rfl
              refine va_calli (va_runV (As := [.int 0, .int 2, .int 0, .int (nI n)]) (rest := []) ⟨hx, hb, hml, hown, hts⟩ (c_X7_sideThen_020 l dC dI cB cI cJ H.size xSta fL fS fP fT fA fQ fR fN (nI P.length) fs u0 n hs.1 (by omega) (by omega)) (cwV 4 hts gX7_reachBy_X7_sideThen rfl rfl rfl (by decide +kernel) ⟨Nat.le_of_ble_eq_true rfl, Nat.le_of_ble_eq_true rfl⟩) ⟨fun a U g mk q => by obtain ⟨q0, q1, qP, qK, qD⟩ := q; exact ⟨q0, q1, qP, va_K.moved (u := U) (U := U.calling g mk a) (Vm.Alike.refl U.vm) qK, qD⟩, va_recv hK hP (ci := 7) (q0 := 0) rfl rfl, fun U hU hW => ⟨rfl, by rw [hU], by rw [hU]; exact hPc, va_K.moved hW.alike hK, hDc.weaken (fun _ _ _ _ => trivial)⟩⟩ rfl rfl hl.1 rfl (lv_room (Nat.le_of_ble_eq_true rfl)) dX7_reachBy_66 ⟨Nat.le_of_ble_eq_true rfl, Nat.le_of_ble_eq_true rfl⟩) hS (fun q _ h => hFc q h) hFc (fun r_17 u t H1 locs ht hvm hw hB hz1 hk1 hS => ?_)
              obtain ⟨hP1, hK1, hD1⟩ := hB
              rw [ht] at hP1
              obtain ⟨hP, hD⟩ := va_join (wr := [(fA, .inl (cI, 576, (.inl ga))), (fQ, .inl (cI, 576, (.inl gq))), (fR, .inl (cI, 576, (.inl gr)))]) (w1 := [(xSta, .inr (7, [.int (-1), .ref fL, .ref fS, .ref fP, .ref fT, .ref fA, .ref fQ, .ref fR, .int (nI P.length), .ref fN])), (fS, .inl (cI, 3, (.inl fs)))]) hP hD [0, 1] [2, 3, 4] rfl rfl (by decide) (by decide) hk1 hFc hP1 hD1
              generalize H1 = H at hP hS ⊢
              have hP : va_P (dC, dI) vwCl [(fA, .inl (cI, 576, (.inl ga))), (fQ, .inl (cI, 576, (.inl gq))), (fR, .inl (cI, 576, (.inl gr))), (xSta, .inr (7, [.int (-1), .ref fL, .ref fS, .ref fP, .ref fT, .ref fA, .ref fQ, .ref fR, .int (nI P.length), .ref fN])), (fS, .inl (cI, 3, (.inl fs)))] H := hP
              have hD : va_D A [(fA, .inl (cI, 576, (.inl ga))), (fQ, .inl (cI, 576, (.inl gq))), (fR, .inl (cI, 576, (.inl gr))), (xSta, .inr (7, [.int (-1), .ref fL, .ref fS, .ref fP, .ref fT, .ref fA, .ref fQ, .ref fR, .int (nI P.length), .ref fN])), (fS, .inl (cI, 3, (.inl fs)))] := hD
              obtain rfl : r_17 = nI (u0 / (n - 1) * n) := hw
              refine lv_istore (lv' := [(5, .int (nI (u0 / (n - 1) * n))), (0, .ref xSta), (1, .int (nI q)), (2, .int 2), (3, .int 0), (4, .int (nI n))]) hx hb dX7_reachBy_69 hl (by decide) rfl (fun ls hl => ?_)
              refine lv_aload_n hx hb dX7_reachBy_71 rfl (lv_at hl 1 rfl) ?_
              refine lv_iconst (v := 1) hx hb dX7_reachBy_72 (by decide) ?_
              refine lv_iload_n hx hb dX7_reachBy_73 rfl (lv_at hl 3 rfl) ?_
              refine lv_iload_n hx hb dX7_reachBy_74 rfl (lv_at hl 4 rfl) ?_
              refine lv_iload hx hb dX7_reachBy_75 (lv_at hl 5 rfl) ?_
              have hPc := hP.sub (ws' := [(xSta, .inr (7, [.int (-1), .ref fL, .ref fS, .ref fP, .ref fT, .ref fA, .ref fQ, .ref fR, .int (nI P.length), .ref fN])), (fS, .inl (cI, 3, (.inl fs)))]) [3, 4] rfl
              have hDc := hD.sub (ws' := [(xSta, .inr (7, [.int (-1), .ref fL, .ref fS, .ref fP, .ref fT, .ref fA, .ref fQ, .ref fR, .int (nI P.length), .ref fN])), (fS, .inl (cI, 3, (.inl fs)))]) [3, 4] (by decide) rfl
              have hFc := va_free (wc := [(xSta, .inr (7, [.int (-1), .ref fL, .ref fS, .ref fP, .ref fT, .ref fA, .ref fQ, .ref fR, .int (nI P.length), .ref fN])), (fS, .inl (cI, 3, (.inl fs)))]) hD hS hA [3, 4] rfl
              refine va_calli (va_runV (As := [.int 1, .int 2, .int 0, .int (nI n)]) (rest := []) ⟨hx, hb, hml, hown, hts⟩ (c_X7_sideThen_120 l dC dI cB cI cJ H.size xSta fL fS fP fT fA fQ fR fN (nI P.length) fs u1 n hs.2.1 (by omega) (by omega)) (cwV 4 hts gX7_reachBy_X7_sideThen rfl rfl rfl (by decide +kernel) ⟨Nat.le_of_ble_eq_true rfl, Nat.le_of_ble_eq_true rfl⟩) ⟨fun a U g mk q => by obtain ⟨q0, q1, qP, qK, qD⟩ := q; exact ⟨q0, q1, qP, va_K.moved (u := U) (U := U.calling g mk a) (Vm.Alike.refl U.vm) qK, qD⟩, va_recv hK hP (ci := 7) (q0 := 3) rfl rfl, fun U hU hW => ⟨rfl, by rw [hU], by rw [hU]; exact hPc, va_K.moved hW.alike hK, hDc.weaken (fun _ _ _ _ => trivial)⟩⟩ rfl rfl hl.1 rfl (lv_room (Nat.le_of_ble_eq_true rfl)) dX7_reachBy_77 ⟨Nat.le_of_ble_eq_true rfl, Nat.le_of_ble_eq_true rfl⟩) hS (fun q _ h => hFc q h) hFc (fun r_18 u t H1 locs ht hvm hw hB hz1 hk1 hS => ?_)
              obtain ⟨hP1, hK1, hD1⟩ := hB
              rw [ht] at hP1
              obtain ⟨hP, hD⟩ := va_join (wr := [(fA, .inl (cI, 576, (.inl ga))), (fQ, .inl (cI, 576, (.inl gq))), (fR, .inl (cI, 576, (.inl gr)))]) (w1 := [(xSta, .inr (7, [.int (-1), .ref fL, .ref fS, .ref fP, .ref fT, .ref fA, .ref fQ, .ref fR, .int (nI P.length), .ref fN])), (fS, .inl (cI, 3, (.inl fs)))]) hP hD [3, 4] [0, 1, 2] rfl rfl (by decide) (by decide) hk1 hFc hP1 hD1
              generalize H1 = H at hP hS ⊢
              have hP : va_P (dC, dI) vwCl [(fA, .inl (cI, 576, (.inl ga))), (fQ, .inl (cI, 576, (.inl gq))), (fR, .inl (cI, 576, (.inl gr))), (xSta, .inr (7, [.int (-1), .ref fL, .ref fS, .ref fP, .ref fT, .ref fA, .ref fQ, .ref fR, .int (nI P.length), .ref fN])), (fS, .inl (cI, 3, (.inl fs)))] H := hP
              have hD : va_D A [(fA, .inl (cI, 576, (.inl ga))), (fQ, .inl (cI, 576, (.inl gq))), (fR, .inl (cI, 576, (.inl gr))), (xSta, .inr (7, [.int (-1), .ref fL, .ref fS, .ref fP, .ref fT, .ref fA, .ref fQ, .ref fR, .int (nI P.length), .ref fN])), (fS, .inl (cI, 3, (.inl fs)))] := hD
              obtain rfl : r_18 = nI (u1) := hw
              refine lv_istore (lv' := [(6, .int (nI (u1))), (5, .int (nI (u0 / (n - 1) * n))), (0, .ref xSta), (1, .int (nI q)), (2, .int 2), (3, .int 0), (4, .int (nI n))]) hx hb dX7_reachBy_80 hl (by decide) rfl (fun ls hl => ?_)
              refine lv_iload hx hb dX7_reachBy_82 (lv_at hl 1 rfl) ?_
              refine lv_iload hx hb dX7_reachBy_84 (lv_at hl 0 rfl) ?_
              have hPc := hP.sub (ws' := []) [] rfl
              have hDc := hD.sub (ws' := []) [] (by decide) rfl
              have hFc := va_free (wc := []) hD hS hA [] rfl
              refine va_calli (va_runS (As := [.int (nI (u0 / (n - 1) * n)), .int (nI (u1))]) (rest := []) ⟨hx, hb, hml, hown, hts⟩ (c_X7_boxOf l dC dI cB cI cJ H.size (u0 / (n - 1) * n) u1 (by omega) (by omega)) (va_cwS 2 hts gX7_reachBy_X7_boxOf rfl rfl rfl (by decide +kernel) ⟨Nat.le_of_ble_eq_true rfl, Nat.le_of_ble_eq_true rfl⟩) ⟨fun a U g mk q => by obtain ⟨q0, q1, qP, qK, qD⟩ := q; exact ⟨q0, q1, qP, va_K.moved (u := U) (U := U.calling g mk a) (Vm.Alike.refl U.vm) qK, qD⟩, fun U hU hW => ⟨rfl, by rw [hU], by rw [hU]; exact hPc, va_K.moved hW.alike hK, hDc.weaken (fun _ _ _ _ => trivial)⟩⟩ rfl rfl hl.1 rfl (lv_room (Nat.le_of_ble_eq_true rfl)) dX7_reachBy_86 ⟨Nat.le_of_ble_eq_true rfl, Nat.le_of_ble_eq_true rfl⟩) hS (fun q _ h => hFc q h) hFc (fun r_19 u t H1 locs ht hvm hw hB hz1 hk1 hS => ?_)
              have hP1 : va_P (dC, dI) vwCl [] H1 := fun k q h => by simp at h
              have hD1 : va_D (va_A [] H.size) [] := ⟨fun i j p q h => by simp at h, fun k q h => by simp at h⟩
              obtain ⟨hP, hD⟩ := va_join (wr := [(fA, .inl (cI, 576, (.inl ga))), (fQ, .inl (cI, 576, (.inl gq))), (fR, .inl (cI, 576, (.inl gr))), (xSta, .inr (7, [.int (-1), .ref fL, .ref fS, .ref fP, .ref fT, .ref fA, .ref fQ, .ref fR, .int (nI P.length), .ref fN])), (fS, .inl (cI, 3, (.inl fs)))]) (w1 := []) hP hD [] [0, 1, 2, 3, 4] rfl rfl (by decide) (by decide) hk1 hFc hP1 hD1
              generalize H1 = H at hP hS ⊢
              have hP : va_P (dC, dI) vwCl [(fA, .inl (cI, 576, (.inl ga))), (fQ, .inl (cI, 576, (.inl gq))), (fR, .inl (cI, 576, (.inl gr))), (xSta, .inr (7, [.int (-1), .ref fL, .ref fS, .ref fP, .ref fT, .ref fA, .ref fQ, .ref fR, .int (nI P.length), .ref fN])), (fS, .inl (cI, 3, (.inl fs)))] H := hP
              have hD : va_D A [(fA, .inl (cI, 576, (.inl ga))), (fQ, .inl (cI, 576, (.inl gq))), (fR, .inl (cI, 576, (.inl gr))), (xSta, .inr (7, [.int (-1), .ref fL, .ref fS, .ref fP, .ref fT, .ref fA, .ref fQ, .ref fR, .int (nI P.length), .ref fN])), (fS, .inl (cI, 3, (.inl fs)))] := hD
              obtain rfl : r_19 = nI ((u0 / (n - 1) * n - 1) * 24 + (u1 - 1)) := hw
              have hcd : ((u0 / (n - 1) * n) - 1) * 24 + (u1 - 1) = bx_cd (st_go u0 u1 u2 2 0 n) := (bx_cd_mk (x := u0 / (n - 1) * n) (y := u1) (z := u2 / n * (n - 1)) (by omega) (by omega)).symm
              rw [hcd]
              have hlt := bx_cd_lt hgo
              refine lv_istore (lv' := [(7, .int (nI (bx_cd (st_go u0 u1 u2 2 0 n)))), (6, .int (nI (u1))), (5, .int (nI (u0 / (n - 1) * n))), (0, .ref xSta), (1, .int (nI q)), (2, .int 2), (3, .int 0), (4, .int (nI n))]) hx hb dX7_reachBy_89 hl (by decide) rfl (fun ls hl => ?_)
              refine lv_aload_n hx hb dX7_reachBy_91 rfl (lv_at hl 3 rfl) ?_
              refine va_get (D := (dC, dI)) (ci := 7) (v := .ref fA) (C := RX7) (T := TX7) (N := 10) hx hb hts hiX7 hown hK hP 3 rfl rfl 5 (by decide) (hts (.fieldLink RX7 28 "ScissorsTable$Stairs" "ahead" "[I") (by decide +kernel)) (fun _ h9 => h9) rfl dX7_reachBy_92 ?_
              refine lv_iload hx hb dX7_reachBy_95 (lv_at hl 0 rfl) ?_
              refine va_iald hx hb hK hP 0 1 rfl rfl (vp_in_nI (by omega) (by decide)) dX7_reachBy_97 ?_
              refine lv_topi (fun x_20 ex_20 => ?_)
              rw [nI_clamp (show bx_cd (st_go u0 u1 u2 2 0 n) < 2 ^ 31 by omega)] at ex_20
              refine lv_iconst (v := (-1)) hx hb dX7_reachBy_98 (by decide) ?_
              refine lv_icmp_ne (tgt := 159) hx hb dX7_reachBy_99 (by decide) (fun c_21 => ?_) (fun c_21 => ?_)
              · have hh : q_has P (st_go u0 u1 u2 2 0 n) = true := RC_yes hPR hPI hgo (fun q9 => c_21 (ex_20.trans q9))
                rw [q_see_yes hh] at hPT
                obtain ⟨x_22, ex_22⟩ : ∃ y : Int32, y = (nI n) + 1 := ⟨_, rfl⟩
                refine lv_iinc (v := x_22) (lv' := [(4, .int x_22), (7, .int (nI (bx_cd (st_go u0 u1 u2 2 0 n)))), (6, .int (nI (u1))), (5, .int (nI (u0 / (n - 1) * n))), (0, .ref xSta), (1, .int (nI q)), (2, .int 2), (3, .int 0)]) hx hb dX7_reachBy_159 hl (k := 7) rfl (by rw [ex_22]; rfl) (by decide) rfl (fun ls hl => ?_)
                obtain rfl : x_22 = nI (n + 1) := ex_22.trans (nI_1 n)
                have hl : lv_has ls 8 [(4, .int (nI (n + 1))), (7, .int (nI (bx_cd (st_go u0 u1 u2 2 0 n)))), (6, .int (nI (u1))), (5, .int (nI (u0 / (n - 1) * n))), (0, .ref xSta), (1, .int (nI q)), (2, .int 2), (3, .int 0)] := hl
                refine lv_goto (tgt := 3) hx hb dX7_reachBy_162 (by decide) ?_
                exact out _ _ _ (ih (n + 1) P ga gq gr (by omega) (by omega) (by omega) hP0 hPI hPR hPT _ _ (hP.sub [3, 4, 0, 1, 2] rfl) (hD.sub [3, 4, 0, 1, 2] (by decide) rfl) hS ls (lv_sub hl [4, 5, 6, 7, 0] rfl))
              · have hh : q_has P (st_go u0 u1 u2 2 0 n) = false := RC_no hPR hPI hgo (ex_20.symm.trans c_21)
                rw [q_see_no hh] at hPT
                have hPl2 : P.length < 576 := by
                  have h9 := Nat.le_trans (q_pre_len (hPT ▸ q_sees_pre k (d + 1) (nb_n u0 u1 u2 2 0 (25 - (n + 1)) (n + 1)) _)) hTl
                  rw [List.length_append] at h9
                  exact h9
                refine lv_aload_n hx hb dX7_reachBy_102 rfl (lv_at hl 3 rfl) ?_
                refine va_get (D := (dC, dI)) (ci := 7) (v := .int (nI P.length)) (C := RX7) (T := TX7) (N := 10) hx hb hts hiX7 hown hK hP 3 rfl rfl 8 (by decide) (hts (.fieldLink RX7 55 "ScissorsTable$Stairs" "queued" "I") (by decide +kernel)) (fun _ h9 => h9) rfl dX7_reachBy_103 ?_
                refine lv_sipush (v := 576) hx hb dX7_reachBy_106 (by decide) ?_
                refine lv_icmp_ge (tgt := 159) hx hb dX7_reachBy_109 (by decide) (fun c_23 => ?_) (fun c_23 => ?_)
                · have c_23 : 576 ≤ P.length := (nI_leI (a := 576) (b := P.length) (by omega) (by omega)).mp c_23
                  exfalso
                  omega
                · have c_23 : ¬ 576 ≤ P.length := fun q9 => c_23 ((nI_leI (a := 576) (b := P.length) (by omega) (by omega)).mpr q9)
                  refine lv_aload_n hx hb dX7_reachBy_112 rfl (lv_at hl 3 rfl) ?_
                  refine va_get (D := (dC, dI)) (ci := 7) (v := .ref fA) (C := RX7) (T := TX7) (N := 10) hx hb hts hiX7 hown hK hP 3 rfl rfl 5 (by decide) (hts (.fieldLink RX7 28 "ScissorsTable$Stairs" "ahead" "[I") (by decide +kernel)) (fun _ h9 => h9) rfl dX7_reachBy_113 ?_
                  refine lv_iload hx hb dX7_reachBy_116 (lv_at hl 0 rfl) ?_
                  refine lv_iload_n hx hb dX7_reachBy_118 rfl (lv_at hl 4 rfl) ?_
                  refine va_iast hx hb hK hP hD hS 0 1 rfl rfl (vp_in_nI (by omega) (by decide)) dX7_reachBy_119 (fun H locs hP hD hS => ?_)
                  rw [nI_clamp (show bx_cd (st_go u0 u1 u2 2 0 n) < 2 ^ 31 by omega)] at hP hD
                  have hP : va_P (dC, dI) vwCl [(fA, .inl (cI, 576, (.inl (upd ga (bx_cd (st_go u0 u1 u2 2 0 n)) (nI q))))), (fQ, .inl (cI, 576, (.inl gq))), (fR, .inl (cI, 576, (.inl gr))), (xSta, .inr (7, [.int (-1), .ref fL, .ref fS, .ref fP, .ref fT, .ref fA, .ref fQ, .ref fR, .int (nI P.length), .ref fN])), (fS, .inl (cI, 3, (.inl fs)))] H := hP
                  have hD : va_D A [(fA, .inl (cI, 576, (.inl (upd ga (bx_cd (st_go u0 u1 u2 2 0 n)) (nI q))))), (fQ, .inl (cI, 576, (.inl gq))), (fR, .inl (cI, 576, (.inl gr))), (xSta, .inr (7, [.int (-1), .ref fL, .ref fS, .ref fP, .ref fT, .ref fA, .ref fQ, .ref fR, .int (nI P.length), .ref fN])), (fS, .inl (cI, 3, (.inl fs)))] := hD
                  refine lv_aload_n hx hb dX7_reachBy_120 rfl (lv_at hl 3 rfl) ?_
                  refine va_get (D := (dC, dI)) (ci := 7) (v := .ref fR) (C := RX7) (T := TX7) (N := 10) hx hb hts hiX7 hown hK hP 3 rfl rfl 7 (by decide) (hts (.fieldLink RX7 34 "ScissorsTable$Stairs" "reached" "[I") (by decide +kernel)) (fun _ h9 => h9) rfl dX7_reachBy_121 ?_
                  refine lv_iload hx hb dX7_reachBy_124 (lv_at hl 0 rfl) ?_
                  refine lv_iload_n hx hb dX7_reachBy_126 rfl (lv_at hl 5 rfl) ?_
                  refine lv_iconst (v := 3) hx hb dX7_reachBy_127 (by decide) ?_
                  refine lv_imul hx hb dX7_reachBy_128 ?_
                  refine lv_topi (fun x_24 ex_24 => ?_)
                  obtain rfl : x_24 = 6 := ex_24.trans (by first | rfl | decide)
                  refine lv_iload_n hx hb dX7_reachBy_129 rfl (lv_at hl 6 rfl) ?_
                  refine lv_iadd hx hb dX7_reachBy_130 ?_
                  refine lv_topi (fun x_25 ex_25 => ?_)
                  obtain rfl : x_25 = 6 := ex_25.trans (by first | rfl | decide)
                  refine lv_bipush (v := 25) hx hb dX7_reachBy_131 (by decide) ?_
                  refine lv_imul hx hb dX7_reachBy_133 ?_
                  refine lv_topi (fun x_26 ex_26 => ?_)
                  obtain rfl : x_26 = 150 := ex_26.trans (by first | rfl | decide)
                  refine lv_iload hx hb dX7_reachBy_134 (lv_at hl 7 rfl) ?_
                  refine lv_iadd hx hb dX7_reachBy_136 ?_
                  refine lv_topi (fun x_27 ex_27 => ?_)
                  obtain rfl : x_27 = nI (150 + n) := ex_27.trans (nI_add 150 n)
                  refine va_iast hx hb hK hP hD hS 2 1 rfl rfl (vp_in_nI (by omega) (by decide)) dX7_reachBy_137 (fun H locs hP hD hS => ?_)
                  rw [nI_clamp (show bx_cd (st_go u0 u1 u2 2 0 n) < 2 ^ 31 by omega)] at hP hD
                  have hP : va_P (dC, dI) vwCl [(fA, .inl (cI, 576, (.inl (upd ga (bx_cd (st_go u0 u1 u2 2 0 n)) (nI q))))), (fQ, .inl (cI, 576, (.inl gq))), (fR, .inl (cI, 576, (.inl (upd gr (bx_cd (st_go u0 u1 u2 2 0 n)) (nI (150 + n)))))), (xSta, .inr (7, [.int (-1), .ref fL, .ref fS, .ref fP, .ref fT, .ref fA, .ref fQ, .ref fR, .int (nI P.length), .ref fN])), (fS, .inl (cI, 3, (.inl fs)))] H := hP
                  have hD : va_D A [(fA, .inl (cI, 576, (.inl (upd ga (bx_cd (st_go u0 u1 u2 2 0 n)) (nI q))))), (fQ, .inl (cI, 576, (.inl gq))), (fR, .inl (cI, 576, (.inl (upd gr (bx_cd (st_go u0 u1 u2 2 0 n)) (nI (150 + n)))))), (xSta, .inr (7, [.int (-1), .ref fL, .ref fS, .ref fP, .ref fT, .ref fA, .ref fQ, .ref fR, .int (nI P.length), .ref fN])), (fS, .inl (cI, 3, (.inl fs)))] := hD
                  refine lv_aload_n hx hb dX7_reachBy_138 rfl (lv_at hl 3 rfl) ?_
                  refine va_get (D := (dC, dI)) (ci := 7) (v := .ref fQ) (C := RX7) (T := TX7) (N := 10) hx hb hts hiX7 hown hK hP 3 rfl rfl 6 (by decide) (hts (.fieldLink RX7 31 "ScissorsTable$Stairs" "queue" "[I") (by decide +kernel)) (fun _ h9 => h9) rfl dX7_reachBy_139 ?_
                  refine lv_aload_n hx hb dX7_reachBy_142 rfl (lv_at hl 3 rfl) ?_
                  refine va_get (D := (dC, dI)) (ci := 7) (v := .int (nI P.length)) (C := RX7) (T := TX7) (N := 10) hx hb hts hiX7 hown hK hP 3 rfl rfl 8 (by decide) (hts (.fieldLink RX7 55 "ScissorsTable$Stairs" "queued" "I") (by decide +kernel)) (fun _ h9 => h9) rfl dX7_reachBy_143 ?_
                  refine lv_iload hx hb dX7_reachBy_146 (lv_at hl 0 rfl) ?_
                  refine va_iast hx hb hK hP hD hS 1 1 rfl rfl (vp_in_nI (by omega) (by decide)) dX7_reachBy_148 (fun H locs hP hD hS => ?_)
                  rw [nI_clamp (show P.length < 2 ^ 31 by omega)] at hP hD
                  have hP : va_P (dC, dI) vwCl [(fA, .inl (cI, 576, (.inl (upd ga (bx_cd (st_go u0 u1 u2 2 0 n)) (nI q))))), (fQ, .inl (cI, 576, (.inl (upd gq P.length (nI (bx_cd (st_go u0 u1 u2 2 0 n))))))), (fR, .inl (cI, 576, (.inl (upd gr (bx_cd (st_go u0 u1 u2 2 0 n)) (nI (150 + n)))))), (xSta, .inr (7, [.int (-1), .ref fL, .ref fS, .ref fP, .ref fT, .ref fA, .ref fQ, .ref fR, .int (nI P.length), .ref fN])), (fS, .inl (cI, 3, (.inl fs)))] H := hP
                  have hD : va_D A [(fA, .inl (cI, 576, (.inl (upd ga (bx_cd (st_go u0 u1 u2 2 0 n)) (nI q))))), (fQ, .inl (cI, 576, (.inl (upd gq P.length (nI (bx_cd (st_go u0 u1 u2 2 0 n))))))), (fR, .inl (cI, 576, (.inl (upd gr (bx_cd (st_go u0 u1 u2 2 0 n)) (nI (150 + n)))))), (xSta, .inr (7, [.int (-1), .ref fL, .ref fS, .ref fP, .ref fT, .ref fA, .ref fQ, .ref fR, .int (nI P.length), .ref fN])), (fS, .inl (cI, 3, (.inl fs)))] := hD
                  refine lv_aload_n hx hb dX7_reachBy_149 rfl (lv_at hl 3 rfl) ?_
                  refine lv_dup hx hb dX7_reachBy_150 rfl ?_
                  refine va_get (D := (dC, dI)) (ci := 7) (v := .int (nI P.length)) (C := RX7) (T := TX7) (N := 10) hx hb hts hiX7 hown hK hP 3 rfl rfl 8 (by decide) (hts (.fieldLink RX7 55 "ScissorsTable$Stairs" "queued" "I") (by decide +kernel)) (fun _ h9 => h9) rfl dX7_reachBy_151 ?_
                  refine lv_iconst (v := 1) hx hb dX7_reachBy_154 (by decide) ?_
                  refine lv_iadd hx hb dX7_reachBy_155 ?_
                  refine lv_topi (fun x_28 ex_28 => ?_)
                  obtain rfl : x_28 = nI (P.length + 1) := ex_28.trans (nI_add P.length 1)
                  rw [show nI (P.length + 1) = nI (P ++ [(st_go u0 u1 u2 2 0 n, k, d + 1)]).length from congrArg nI nk_len]
                  refine va_put (D := (dC, dI)) (ci := 7) (v := .int (nI (P ++ [(st_go u0 u1 u2 2 0 n, k, d + 1)]).length)) (ty := .int) (C := RX7) (T := TX7) (N := 10) hx hb hts hiX7 tyX7 tyX7_ok nmX7 hown hK hP hD hS 3 rfl rfl 8 (by decide) (hts (.fieldLink RX7 55 "ScissorsTable$Stairs" "queued" "I") (by decide +kernel)) (fun _ h9 => h9) rfl (by decide +kernel) rfl rfl (Nat.le_of_ble_eq_true rfl) dX7_reachBy_156 (fun H locs hP hD hS => ?_)
                  have hP : va_P (dC, dI) vwCl [(fA, .inl (cI, 576, (.inl (upd ga (bx_cd (st_go u0 u1 u2 2 0 n)) (nI q))))), (fQ, .inl (cI, 576, (.inl (upd gq P.length (nI (bx_cd (st_go u0 u1 u2 2 0 n))))))), (fR, .inl (cI, 576, (.inl (upd gr (bx_cd (st_go u0 u1 u2 2 0 n)) (nI (150 + n)))))), (xSta, .inr (7, [.int (-1), .ref fL, .ref fS, .ref fP, .ref fT, .ref fA, .ref fQ, .ref fR, .int (nI (P ++ [(st_go u0 u1 u2 2 0 n, k, d + 1)]).length), .ref fN])), (fS, .inl (cI, 3, (.inl fs)))] H := hP
                  have hD : va_D A [(fA, .inl (cI, 576, (.inl (upd ga (bx_cd (st_go u0 u1 u2 2 0 n)) (nI q))))), (fQ, .inl (cI, 576, (.inl (upd gq P.length (nI (bx_cd (st_go u0 u1 u2 2 0 n))))))), (fR, .inl (cI, 576, (.inl (upd gr (bx_cd (st_go u0 u1 u2 2 0 n)) (nI (150 + n)))))), (xSta, .inr (7, [.int (-1), .ref fL, .ref fS, .ref fP, .ref fT, .ref fA, .ref fQ, .ref fR, .int (nI (P ++ [(st_go u0 u1 u2 2 0 n, k, d + 1)]).length), .ref fN])), (fS, .inl (cI, 3, (.inl fs)))] := hD
                  obtain ⟨x_29, ex_29⟩ : ∃ y : Int32, y = (nI n) + 1 := ⟨_, rfl⟩
                  refine lv_iinc (v := x_29) (lv' := [(4, .int x_29), (7, .int (nI (bx_cd (st_go u0 u1 u2 2 0 n)))), (6, .int (nI (u1))), (5, .int (nI (u0 / (n - 1) * n))), (0, .ref xSta), (1, .int (nI q)), (2, .int 2), (3, .int 0)]) hx hb dX7_reachBy_159 hl (k := 7) rfl (by rw [ex_29]; rfl) (by decide) rfl (fun ls hl => ?_)
                  obtain rfl : x_29 = nI (n + 1) := ex_29.trans (nI_1 n)
                  have hl : lv_has ls 8 [(4, .int (nI (n + 1))), (7, .int (nI (bx_cd (st_go u0 u1 u2 2 0 n)))), (6, .int (nI (u1))), (5, .int (nI (u0 / (n - 1) * n))), (0, .ref xSta), (1, .int (nI q)), (2, .int 2), (3, .int 0)] := hl
                  refine lv_goto (tgt := 3) hx hb dX7_reachBy_162 (by decide) ?_
                  exact out _ _ _ (ih (n + 1) _ _ _ _ (by omega) (by omega) (by omega) (q_app_old hP0) (by have h9 := q_in_add (k := k) (d := d + 1) hPI hgo; rw [q_see_no hh] at h9; exact h9) (by have h9 := RC_add (d := d + 1) hPR hPI hP0 hgo hh; have h8 : bx_cd ((bx_mk u0 u1 u2, pk, d) : qE).1 = q := hq.symm; rw [h8] at h9; exact h9) hPT _ _ (hP.sub [3, 4, 0, 1, 2] rfl) (hD.sub [3, 4, 0, 1, 2] (by decide) rfl) hS ls (lv_sub hl [4, 5, 6, 7, 0] rfl))
  exact loop 24 2 Q fa fq fr rfl (by omega) (by omega) hk hI hR hT _ _ (hP.sub [0, 1, 2, 3, 4] rfl) (hD.sub [0, 1, 2, 3, 4] (by decide) rfl) hS ls (lv_sub hl [1, 2, 3, 4, 0] rfl)
set_option maxHeartbeats 4000000 in
set_option maxRecDepth 100000 in
theorem c_X7_reachBy_21 (l : Launch) (dC : Nat → ClassId) (dI : Nat → Nat → Nat) (cB cI cJ : ClassId) (sz : Nat) (xSta fL fS fP fT fA fQ fR fN : Nat) (Q T : List qE) (fs fa fq fr : Nat → Int32) (V u0 u1 u2 q k pk d : Nat) (hu : (1 ≤ u0 ∧ u0 ≤ 24) ∧ (1 ≤ u1 ∧ u1 ≤ 24) ∧ (1 ≤ u2 ∧ u2 ≤ 24)) (hV : u0 * u1 * u2 = V) (hs : fs 0 = nI u0 ∧ fs 1 = nI u1 ∧ fs 2 = nI u2) (hq : q = bx_cd (bx_mk u0 u1 u2)) (hk : Q[k]? = some (bx_mk u0 u1 u2, pk, d)) (hI : q_in V Q) (hR : RC Q fa fq) (hT : q_sees k (d + 1) (nb_n u0 u1 u2 2 1 23 2) Q = T) (hTl : T.length ≤ 576) : Met l yX7_reachBy wsX7_reachBy ({ frames := 2, cells := 0, slots := 0, locals := 48 }) (va_Pc [.ref xSta, .int (nI q), .int 2, .int 1] (fun U => U.heap.size = sz ∧ va_P (dC, dI) vwCl [(xSta, .inr (7, [.int (-1), .ref fL, .ref fS, .ref fP, .ref fT, .ref fA, .ref fQ, .ref fR, .int (nI Q.length), .ref fN])), (fS, .inl (cI, 3, (.inl fs))), (fA, .inl (cI, 576, (.inl fa))), (fQ, .inl (cI, 576, (.inl fq))), (fR, .inl (cI, 576, (.inl fr)))] U.heap ∧ va_K (dC, dI) vwCl [(cB, .byte), (cI, .int), (cJ, .long)] U ∧ va_D (fun _ => True) [(xSta, .inr (7, [.int (-1), .ref fL, .ref fS, .ref fP, .ref fT, .ref fA, .ref fQ, .ref fR, .int (nI Q.length), .ref fN])), (fS, .inl (cI, 3, (.inl fs))), (fA, .inl (cI, 576, (.inl fa))), (fQ, .inl (cI, 576, (.inl fq))), (fR, .inl (cI, 576, (.inl fr)))])) (va_Qv (fun _ : Unit => True) (fun _ t => ∃ fz : Nat → Int32, ∃ fy : Nat → Int32, ∃ fw : Nat → Int32, RC T fz fy ∧ va_P (dC, dI) vwCl [(xSta, .inr (7, [.int (-1), .ref fL, .ref fS, .ref fP, .ref fT, .ref fA, .ref fQ, .ref fR, .int (nI T.length), .ref fN])), (fS, .inl (cI, 3, (.inl fs))), (fA, .inl (cI, 576, (.inl fz))), (fQ, .inl (cI, 576, (.inl fy))), (fR, .inl (cI, 576, (.inl fw)))] t.heap ∧ va_K (dC, dI) vwCl [(cB, .byte), (cI, .int), (cJ, .long)] t ∧ va_D (va_A [(xSta, .inr (7, [.int (-1), .ref fL, .ref fS, .ref fP, .ref fT, .ref fA, .ref fQ, .ref fR, .int (nI Q.length), .ref fN])), (fS, .inl (cI, 3, (.inl fs))), (fA, .inl (cI, 576, (.inl fa))), (fQ, .inl (cI, 576, (.inl fq))), (fR, .inl (cI, 576, (.inl fr)))] sz) [(xSta, .inr (7, [.int (-1), .ref fL, .ref fS, .ref fP, .ref fT, .ref fA, .ref fQ, .ref fR, .int (nI T.length), .ref fN])), (fS, .inl (cI, 3, (.inl fs))), (fA, .inl (cI, 576, (.inl fz))), (fQ, .inl (cI, 576, (.inl fy))), (fR, .inl (cI, 576, (.inl fw)))]) (va_A [(xSta, .inr (7, [.int (-1), .ref fL, .ref fS, .ref fP, .ref fT, .ref fA, .ref fQ, .ref fR, .int (nI Q.length), .ref fN])), (fS, .inl (cI, 3, (.inl fs))), (fA, .inl (cI, 576, (.inl fa))), (fQ, .inl (cI, 576, (.inl fq))), (fR, .inl (cI, 576, (.inl fr)))] sz)) 0 0 (va_A [(xSta, .inr (7, [.int (-1), .ref fL, .ref fS, .ref fP, .ref fT, .ref fA, .ref fQ, .ref fR, .int (nI Q.length), .ref fN])), (fS, .inl (cI, 3, (.inl fs))), (fA, .inl (cI, 576, (.inl fa))), (fQ, .inl (cI, 576, (.inl fq))), (fR, .inl (cI, 576, (.inl fr)))] sz) := by
  refine Met.ofW (cc := cX7_reachBy) (maxL := 8) (ret := none) (by decide) rfl ?_
  intro p e s m args below meth c s₁ B hml hv
  obtain ⟨rfl, hsz, hP, hK, hD0⟩ := hv
  have hx := B.exec
  have hb := B.bytes
  have hr := B.returns
  have hts := atoms_spec (ws := wsX7_reachBy) B.pre
  have hown : s.vm.findClass RX7 = some m.cls := findClass_of_methodNamed B.named
  have hlocks := B.notSynchronized
  have hiX7 : ∀ w ∈ u_ws RX7 TX7 10, w ∈ wsX7_reachBy := by decide +kernel
  subst hsz
  have hD := hD0.self (sz := s.heap.size)
  generalize hAe : va_A [(xSta, .inr (7, [.int (-1), .ref fL, .ref fS, .ref fP, .ref fT, .ref fA, .ref fQ, .ref fR, .int (nI Q.length), .ref fN])), (fS, .inl (cI, 3, (.inl fs))), (fA, .inl (cI, 576, (.inl fa))), (fQ, .inl (cI, 576, (.inl fq))), (fR, .inl (cI, 576, (.inl fr)))] s.heap.size = A at hD ⊢
  have hA : ∀ q : Nat, s.heap.size ≤ q → A q := fun q h => by rw [← hAe]; exact Or.inr h
  have hS : va_S A s.heap s.heap [] := va_S.rf
  have hP : va_P (dC, dI) vwCl [(xSta, .inr (7, [.int (-1), .ref fL, .ref fS, .ref fP, .ref fT, .ref fA, .ref fQ, .ref fR, .int (nI Q.length), .ref fN])), (fS, .inl (cI, 3, (.inl fs))), (fA, .inl (cI, 576, (.inl fa))), (fQ, .inl (cI, 576, (.inl fq))), (fR, .inl (cI, 576, (.inl fr)))] s.heap := hP
  have hl := lv_entry ([.ref xSta, .int (nI q), .int 2, .int 1]) (n := 8) (Nat.le_of_ble_eq_true rfl)
  rw [lg_entry_eq]
  generalize (lg_sl ([.ref xSta, .int (nI q), .int 2, .int 1]) ++ List.replicate (8 - (lg_sl ([.ref xSta, .int (nI q), .int 2, .int 1])).length) Slot.unset).toArray = ls at hl ⊢
  have hl : lv_has ls 8 [(0, .ref xSta), (1, .int (nI q)), (2, .int 2), (3, .int 1)] := hl
  refine lv_iconst (v := 2) hx hb dX7_reachBy_0 (by decide) ?_
  refine lv_istore (lv' := [(4, .int 2), (0, .ref xSta), (1, .int (nI q)), (2, .int 2), (3, .int 1)]) hx hb dX7_reachBy_1 hl (by decide) rfl (fun ls hl => ?_)
  refine nk_G (fun G inn out => ?_)
  have loop : ∀ (f : Nat) (n : Nat) (P : List qE) (ga : Nat → Int32) (gq : Nat → Int32) (gr : Nat → Int32) (h5 : n + f = 26) (h6 : 2 ≤ n) (h7 : n ≤ 25) (hP0 : P[k]? = some (bx_mk u0 u1 u2, pk, d)) (hPI : q_in V P) (hPR : RC P ga gq) (hPT : q_sees k (d + 1) (nb_n u0 u1 u2 2 1 (25 - n) n) P = T) (H : Heap) (locs : List Loc) (_ : va_P (dC, dI) vwCl [(xSta, .inr (7, [.int (-1), .ref fL, .ref fS, .ref fP, .ref fT, .ref fA, .ref fQ, .ref fR, .int (nI P.length), .ref fN])), (fS, .inl (cI, 3, (.inl fs))), (fA, .inl (cI, 576, (.inl ga))), (fQ, .inl (cI, 576, (.inl gq))), (fR, .inl (cI, 576, (.inl gr)))] H) (_ : va_D A [(xSta, .inr (7, [.int (-1), .ref fL, .ref fS, .ref fP, .ref fT, .ref fA, .ref fQ, .ref fR, .int (nI P.length), .ref fN])), (fS, .inl (cI, 3, (.inl fs))), (fA, .inl (cI, 576, (.inl ga))), (fQ, .inl (cI, 576, (.inl gq))), (fR, .inl (cI, 576, (.inl gr)))]) (_ : va_S A s.heap H locs) (ls : Array Slot) (_ : lv_has ls 8 [(0, .ref xSta), (1, .int (nI q)), (2, .int 2), (3, .int 1), (4, .int (nI n))]), G H locs (F0 m 3 ls []) := by
    intro f
    induction f with
    | zero =>
      intro n P ga gq gr h5 h6 h7 hP0 hPI hPR hPT H locs hP hD hS ls hl
      exfalso; omega
    | succ f ih =>
      intro n P ga gq gr h5 h6 h7 hP0 hPI hPR hPT H locs hP hD hS ls hl
      refine inn _ _ _ ?_
      refine lv_iload hx hb dX7_reachBy_3 (lv_at hl 4 rfl) ?_
      refine lv_bipush (v := 24) hx hb dX7_reachBy_5 (by decide) ?_
      refine lv_icmp_gt (tgt := 165) hx hb dX7_reachBy_7 (by decide) (fun c_1 => ?_) (fun c_1 => ?_)
      · have c_1 : 24 < n := (nI_ltI (a := 24) (b := n) (by omega) (by omega)).mp c_1
        have hPe : P = T := by
          have h9 : 25 - n = 0 := by omega
          rw [h9] at hPT
          exact hPT
        rw [hPe] at hP hD hPR
        have hP : va_P (dC, dI) vwCl [(xSta, .inr (7, [.int (-1), .ref fL, .ref fS, .ref fP, .ref fT, .ref fA, .ref fQ, .ref fR, .int (nI T.length), .ref fN])), (fS, .inl (cI, 3, (.inl fs))), (fA, .inl (cI, 576, (.inl ga))), (fQ, .inl (cI, 576, (.inl gq))), (fR, .inl (cI, 576, (.inl gr)))] H := hP
        have hD : va_D A [(xSta, .inr (7, [.int (-1), .ref fL, .ref fS, .ref fP, .ref fT, .ref fA, .ref fQ, .ref fR, .int (nI T.length), .ref fN])), (fS, .inl (cI, 3, (.inl fs))), (fA, .inl (cI, 576, (.inl ga))), (fQ, .inl (cI, 576, (.inl gq))), (fR, .inl (cI, 576, (.inl gr)))] := hD
        have hP9 := hP.sub (ws' := [(xSta, .inr (7, [.int (-1), .ref fL, .ref fS, .ref fP, .ref fT, .ref fA, .ref fQ, .ref fR, .int (nI T.length), .ref fN])), (fS, .inl (cI, 3, (.inl fs))), (fA, .inl (cI, 576, (.inl ga))), (fQ, .inl (cI, 576, (.inl gq))), (fR, .inl (cI, 576, (.inl gr)))]) [0, 1, 2, 3, 4] rfl
        have hD9 := hD.sub (ws' := [(xSta, .inr (7, [.int (-1), .ref fL, .ref fS, .ref fP, .ref fT, .ref fA, .ref fQ, .ref fR, .int (nI T.length), .ref fN])), (fS, .inl (cI, 3, (.inl fs))), (fA, .inl (cI, 576, (.inl ga))), (fQ, .inl (cI, 576, (.inl gq))), (fR, .inl (cI, 576, (.inl gr)))]) [0, 1, 2, 3, 4] (by decide) rfl
        exact W.vret hx hb hr (fun t ht hW => ⟨⟨(), rfl, trivial, ga, gq, gr, hPR, by rw [ht]; exact hP9, va_K.moved hW.alike hK, hD9⟩, hS.F ht⟩) hS.2.2 dX7_reachBy_165
      · have c_1 : ¬ 24 < n := fun q9 => c_1 ((nI_ltI (a := 24) (b := n) (by omega) (by omega)).mpr q9)
        have hPl : P.length ≤ 576 := Nat.le_trans (q_pre_len (hPT ▸ q_sees_pre k (d + 1) (nb_n u0 u1 u2 2 1 (25 - n) n) P)) hTl
        have hf1 : 25 - n = (25 - (n + 1)) + 1 := by omega
        rw [hf1] at hPT
        have r1 : u2 % n ≤ 24 := Nat.le_trans (Nat.mod_le _ _) (by omega)
        have r2 : u1 % (n - 1) ≤ 24 := Nat.le_trans (Nat.mod_le _ _) (by omega)
        have r3 : u1 / (n - 1) * n ≤ 24 * 24 := Nat.mul_le_mul (Nat.le_trans (Nat.div_le_self _ _) (by omega)) (by omega)
        refine lv_iload_n hx hb dX7_reachBy_10 rfl (lv_at hl 2 rfl) ?_
        refine lv_iload_n hx hb dX7_reachBy_11 rfl (lv_at hl 3 rfl) ?_
        refine lv_icmp_eq (tgt := 165) hx hb dX7_reachBy_12 (by decide) (fun c => absurd c (by decide)) (fun _ => ?_)
        refine lv_aload_n hx hb dX7_reachBy_15 rfl (lv_at hl 0 rfl) ?_
        refine va_get (D := (dC, dI)) (ci := 7) (v := .ref fS) (C := RX7) (T := TX7) (N := 10) hx hb hts hiX7 hown hK hP 0 rfl rfl 2 (by decide) (hts (.fieldLink RX7 19 "ScissorsTable$Stairs" "sides" "[I") (by decide +kernel)) (fun _ h9 => h9) rfl dX7_reachBy_16 ?_
        refine lv_iload_n hx hb dX7_reachBy_19 rfl (lv_at hl 2 rfl) ?_
        refine va_iald hx hb hK hP 1 1 rfl rfl (by show ¬ (_ ∨ _); decide) dX7_reachBy_20 ?_
        refine lv_topi (fun x_2 ex_2 => ?_)
        have ex_2 : x_2 = fs 2 := ex_2
        obtain rfl : x_2 = nI u2 := ex_2.trans hs.2.2
        refine lv_iload hx hb dX7_reachBy_21 (lv_at hl 4 rfl) ?_
        refine lv_irem hx hb dX7_reachBy_23 (nI_ne0 (by omega) (by omega)) ?_
        refine lv_topi (fun x_3 ex_3 => ?_)
        obtain rfl : x_3 = nI (u2 % n) := ex_3.trans (pk_rem (a := u2) (d := n) (by omega) (by omega) (by omega))
        refine lv_if_ne (tgt := 159) hx hb dX7_reachBy_24 (by decide) (fun c_4 => ?_) (fun c_4 => ?_)
        · have c_4 : ¬ (u2 % n) = 0 := fun q9 => c_4 ((nI_eq (a := u2 % n) (b := 0) (by omega) (by omega)).mpr q9)
          obtain ⟨x_5, ex_5⟩ : ∃ y : Int32, y = (nI n) + 1 := ⟨_, rfl⟩
          refine lv_iinc (v := x_5) (lv' := [(4, .int x_5), (0, .ref xSta), (1, .int (nI q)), (2, .int 2), (3, .int 1)]) hx hb dX7_reachBy_159 hl (k := 4) rfl (by rw [ex_5]; rfl) (by decide) rfl (fun ls hl => ?_)
          obtain rfl : x_5 = nI (n + 1) := ex_5.trans (nI_1 n)
          have hl : lv_has ls 8 [(4, .int (nI (n + 1))), (0, .ref xSta), (1, .int (nI q)), (2, .int 2), (3, .int 1)] := hl
          refine lv_goto (tgt := 3) hx hb dX7_reachBy_162 (by decide) ?_
          exact out _ _ _ (ih (n + 1) P ga gq gr (by omega) (by omega) (by omega) hP0 hPI hPR ((congrArg (fun L9 => q_sees k (d + 1) L9 P) (nb_no (fun h9 => c_4 h9.1))).symm.trans hPT) _ _ (hP.sub [0, 1, 2, 3, 4] rfl) (hD.sub [0, 1, 2, 3, 4] (by decide) rfl) hS ls (lv_sub hl [1, 2, 3, 4, 0] rfl))
        · have c_4 : (u2 % n) = 0 := (nI_eq (a := u2 % n) (b := 0) (by omega) (by omega)).mp c_4
          refine lv_aload_n hx hb dX7_reachBy_27 rfl (lv_at hl 0 rfl) ?_
          refine va_get (D := (dC, dI)) (ci := 7) (v := .ref fS) (C := RX7) (T := TX7) (N := 10) hx hb hts hiX7 hown hK hP 0 rfl rfl 2 (by decide) (hts (.fieldLink RX7 19 "ScissorsTable$Stairs" "sides" "[I") (by decide +kernel)) (fun _ h9 => h9) rfl dX7_reachBy_28 ?_
          refine lv_iload_n hx hb dX7_reachBy_31 rfl (lv_at hl 3 rfl) ?_
          refine va_iald hx hb hK hP 1 1 rfl rfl (by show ¬ (_ ∨ _); decide) dX7_reachBy_32 ?_
          refine lv_topi (fun x_6 ex_6 => ?_)
          have ex_6 : x_6 = fs 1 := ex_6
          obtain rfl : x_6 = nI u1 := ex_6.trans hs.2.1
          refine lv_iload hx hb dX7_reachBy_33 (lv_at hl 4 rfl) ?_
          refine lv_iconst (v := 1) hx hb dX7_reachBy_35 (by decide) ?_
          refine lv_isub hx hb dX7_reachBy_36 ?_
          refine lv_topi (fun x_7 ex_7 => ?_)
          obtain rfl : x_7 = nI (n - 1) := ex_7.trans (pk_sub (a := n) (b := 1) (by omega))
          refine lv_irem hx hb dX7_reachBy_37 (nI_ne0 (by omega) (by omega)) ?_
          refine lv_topi (fun x_8 ex_8 => ?_)
          obtain rfl : x_8 = nI (u1 % (n - 1)) := ex_8.trans (pk_rem (a := u1) (d := n - 1) (by omega) (by omega) (by omega))
          refine lv_if_ne (tgt := 159) hx hb dX7_reachBy_38 (by decide) (fun c_9 => ?_) (fun c_9 => ?_)
          · have c_9 : ¬ (u1 % (n - 1)) = 0 := fun q9 => c_9 ((nI_eq (a := u1 % (n - 1)) (b := 0) (by omega) (by omega)).mpr q9)
            obtain ⟨x_10, ex_10⟩ : ∃ y : Int32, y = (nI n) + 1 := ⟨_, rfl⟩
            refine lv_iinc (v := x_10) (lv' := [(4, .int x_10), (0, .ref xSta), (1, .int (nI q)), (2, .int 2), (3, .int 1)]) hx hb dX7_reachBy_159 hl (k := 4) rfl (by rw [ex_10]; rfl) (by decide) rfl (fun ls hl => ?_)
            obtain rfl : x_10 = nI (n + 1) := ex_10.trans (nI_1 n)
            have hl : lv_has ls 8 [(4, .int (nI (n + 1))), (0, .ref xSta), (1, .int (nI q)), (2, .int 2), (3, .int 1)] := hl
            refine lv_goto (tgt := 3) hx hb dX7_reachBy_162 (by decide) ?_
            exact out _ _ _ (ih (n + 1) P ga gq gr (by omega) (by omega) (by omega) hP0 hPI hPR ((congrArg (fun L9 => q_sees k (d + 1) L9 P) (nb_no (fun h9 => c_9 h9.2.1))).symm.trans hPT) _ _ (hP.sub [0, 1, 2, 3, 4] rfl) (hD.sub [0, 1, 2, 3, 4] (by decide) rfl) hS ls (lv_sub hl [1, 2, 3, 4, 0] rfl))
          · have c_9 : (u1 % (n - 1)) = 0 := (nI_eq (a := u1 % (n - 1)) (b := 0) (by omega) (by omega)).mp c_9
            refine lv_aload_n hx hb dX7_reachBy_41 rfl (lv_at hl 0 rfl) ?_
            refine va_get (D := (dC, dI)) (ci := 7) (v := .ref fS) (C := RX7) (T := TX7) (N := 10) hx hb hts hiX7 hown hK hP 0 rfl rfl 2 (by decide) (hts (.fieldLink RX7 19 "ScissorsTable$Stairs" "sides" "[I") (by decide +kernel)) (fun _ h9 => h9) rfl dX7_reachBy_42 ?_
            refine lv_iload_n hx hb dX7_reachBy_45 rfl (lv_at hl 3 rfl) ?_
            refine va_iald hx hb hK hP 1 1 rfl rfl (by show ¬ (_ ∨ _); decide) dX7_reachBy_46 ?_
            refine lv_topi (fun x_11 ex_11 => ?_)
            have ex_11 : x_11 = fs 1 := ex_11
            obtain rfl : x_11 = nI u1 := ex_11.trans hs.2.1
            refine lv_iload hx hb dX7_reachBy_47 (lv_at hl 4 rfl) ?_
            refine lv_iconst (v := 1) hx hb dX7_reachBy_49 (by decide) ?_
            refine lv_isub hx hb dX7_reachBy_50 ?_
            refine lv_topi (fun x_12 ex_12 => ?_)
            obtain rfl : x_12 = nI (n - 1) := ex_12.trans (pk_sub (a := n) (b := 1) (by omega))
            refine lv_idiv hx hb dX7_reachBy_51 (nI_ne0 (by omega) (by omega)) ?_
            refine lv_topi (fun x_13 ex_13 => ?_)
            obtain rfl : x_13 = nI (u1 / (n - 1)) := ex_13.trans (pk_div (a := u1) (d := n - 1) (by omega) (by omega) (by omega))
            refine lv_iload hx hb dX7_reachBy_52 (lv_at hl 4 rfl) ?_
            refine lv_imul hx hb dX7_reachBy_54 ?_
            refine lv_topi (fun x_14 ex_14 => ?_)
            obtain rfl : x_14 = nI ((u1 / (n - 1)) * n) := ex_14.trans (pk_mul (u1 / (n - 1)) n)
            refine lv_bipush (v := 24) hx hb dX7_reachBy_55 (by decide) ?_
            refine lv_icmp_gt (tgt := 159) hx hb dX7_reachBy_57 (by decide) (fun c_15 => ?_) (fun c_15 => ?_)
            · have c_15 : 24 < ((u1 / (n - 1)) * n) := (nI_ltI (a := 24) (b := (u1 / (n - 1)) * n) (by omega) (by omega)).mp c_15
              obtain ⟨x_16, ex_16⟩ : ∃ y : Int32, y = (nI n) + 1 := ⟨_, rfl⟩
              refine lv_iinc (v := x_16) (lv' := [(4, .int x_16), (0, .ref xSta), (1, .int (nI q)), (2, .int 2), (3, .int 1)]) hx hb dX7_reachBy_159 hl (k := 4) rfl (by rw [ex_16]; rfl) (by decide) rfl (fun ls hl => ?_)
              obtain rfl : x_16 = nI (n + 1) := ex_16.trans (nI_1 n)
              have hl : lv_has ls 8 [(4, .int (nI (n + 1))), (0, .ref xSta), (1, .int (nI q)), (2, .int 2), (3, .int 1)] := hl
              refine lv_goto (tgt := 3) hx hb dX7_reachBy_162 (by decide) ?_
              exact out _ _ _ (ih (n + 1) P ga gq gr (by omega) (by omega) (by omega) hP0 hPI hPR ((congrArg (fun L9 => q_sees k (d + 1) L9 P) (nb_no (fun h9 => Nat.not_le.mpr c_15 h9.2.2))).symm.trans hPT) _ _ (hP.sub [0, 1, 2, 3, 4] rfl) (hD.sub [0, 1, 2, 3, 4] (by decide) rfl) hS ls (lv_sub hl [1, 2, 3, 4, 0] rfl))
            · have c_15 : ¬ 24 < ((u1 / (n - 1)) * n) := fun q9 => c_15 ((nI_ltI (a := 24) (b := (u1 / (n - 1)) * n) (by omega) (by omega)).mpr q9)
              have o3 : u1 / (n - 1) * n ≤ 24 := Nat.not_lt.mp c_15
              have oo : sd u0 u1 u2 2 % n = 0 ∧ sd u0 u1 u2 1 % (n - 1) = 0 ∧ sd u0 u1 u2 1 / (n - 1) * n ≤ 24 := ⟨c_4, c_9, o3⟩
              have l1 := st_lo h6 (show 1 ≤ u2 by omega) (show u2 ≤ 24 by omega) c_4
              have l2 := st_hi h6 (show 1 ≤ u1 by omega) c_9
              have hgo : bx_in V (st_go u0 u1 u2 2 1 n) := st_go_in hu.1 hu.2.1 hu.2.2 hV (by decide) (by decide) (by decide) h6 (st_ok_iff.mpr oo)
              rw [nb_yes oo] at hPT
              have hPT : q_sees k (d + 1) (nb_n u0 u1 u2 2 1 (25 - (n + 1)) (n + 1)) (q_see P k (d + 1) (st_go u0 u1 u2 2 1 n)) = T := hPT
              refine lv_aload_n hx hb dX7_reachBy_60 rfl (lv_at hl 0 rfl) ?_
              refine lv_iconst (v := 0) hx hb dX7_reachBy_61 (by decide) ?_
              refine lv_iload_n hx hb dX7_reachBy_62 rfl (lv_at hl 2 rfl) ?_
              refine lv_iload_n hx hb dX7_reachBy_63 rfl (lv_at hl 3 rfl) ?_
              refine lv_iload hx hb dX7_reachBy_64 (lv_at hl 4 rfl) ?_
              have hPc := hP.sub (ws' := [(xSta, .inr (7, [.int (-1), .ref fL, .ref fS, .ref fP, .ref fT, .ref fA, .ref fQ, .ref fR, .int (nI P.length), .ref fN])), (fS, .inl (cI, 3, (.inl fs)))]) [0, 1] rfl
              have hDc := hD.sub (ws' := [(xSta, .inr (7, [.int (-1), .ref fL, .ref fS, .ref fP, .ref fT, .ref fA, .ref fQ, .ref fR, .int (nI P.length), .ref fN])), (fS, .inl (cI, 3, (.inl fs)))]) [0, 1] (by decide) rfl
              have hFc := va_free (wc := [(xSta, .inr (7, [.int (-1), .ref fL, .ref fS, .ref fP, .ref fT, .ref fA, .ref fQ, .ref fR, .int (nI P.length), .ref fN])), (fS, .inl (cI, 3, (.inl fs)))]) hD hS hA [0, 1] rfl
              refine va_calli (va_runV (As := [.int 0, .int 2, .int 1, .int (nI n)]) (rest := []) ⟨hx, hb, hml, hown, hts⟩ (c_X7_sideThen_021 l dC dI cB cI cJ H.size xSta fL fS fP fT fA fQ fR fN (nI P.length) fs u0 n hs.1 (by omega) (by omega)) (cwV 4 hts gX7_reachBy_X7_sideThen rfl rfl rfl (by decide +kernel) ⟨Nat.le_of_ble_eq_true rfl, Nat.le_of_ble_eq_true rfl⟩) ⟨fun a U g mk q => by obtain ⟨q0, q1, qP, qK, qD⟩ := q; exact ⟨q0, q1, qP, va_K.moved (u := U) (U := U.calling g mk a) (Vm.Alike.refl U.vm) qK, qD⟩, va_recv hK hP (ci := 7) (q0 := 0) rfl rfl, fun U hU hW => ⟨rfl, by rw [hU], by rw [hU]; exact hPc, va_K.moved hW.alike hK, hDc.weaken (fun _ _ _ _ => trivial)⟩⟩ rfl rfl hl.1 rfl (lv_room (Nat.le_of_ble_eq_true rfl)) dX7_reachBy_66 ⟨Nat.le_of_ble_eq_true rfl, Nat.le_of_ble_eq_true rfl⟩) hS (fun q _ h => hFc q h) hFc (fun r_17 u t H1 locs ht hvm hw hB hz1 hk1 hS => ?_)
              obtain ⟨hP1, hK1, hD1⟩ := hB
              rw [ht] at hP1
              obtain ⟨hP, hD⟩ := va_join (wr := [(fA, .inl (cI, 576, (.inl ga))), (fQ, .inl (cI, 576, (.inl gq))), (fR, .inl (cI, 576, (.inl gr)))]) (w1 := [(xSta, .inr (7, [.int (-1), .ref fL, .ref fS, .ref fP, .ref fT, .ref fA, .ref fQ, .ref fR, .int (nI P.length), .ref fN])), (fS, .inl (cI, 3, (.inl fs)))]) hP hD [0, 1] [2, 3, 4] rfl rfl (by decide) (by decide) hk1 hFc hP1 hD1
              generalize H1 = H at hP hS ⊢
              have hP : va_P (dC, dI) vwCl [(fA, .inl (cI, 576, (.inl ga))), (fQ, .inl (cI, 576, (.inl gq))), (fR, .inl (cI, 576, (.inl gr))), (xSta, .inr (7, [.int (-1), .ref fL, .ref fS, .ref fP, .ref fT, .ref fA, .ref fQ, .ref fR, .int (nI P.length), .ref fN])), (fS, .inl (cI, 3, (.inl fs)))] H := hP
              have hD : va_D A [(fA, .inl (cI, 576, (.inl ga))), (fQ, .inl (cI, 576, (.inl gq))), (fR, .inl (cI, 576, (.inl gr))), (xSta, .inr (7, [.int (-1), .ref fL, .ref fS, .ref fP, .ref fT, .ref fA, .ref fQ, .ref fR, .int (nI P.length), .ref fN])), (fS, .inl (cI, 3, (.inl fs)))] := hD
              obtain rfl : r_17 = nI (u0) := hw
              refine lv_istore (lv' := [(5, .int (nI (u0))), (0, .ref xSta), (1, .int (nI q)), (2, .int 2), (3, .int 1), (4, .int (nI n))]) hx hb dX7_reachBy_69 hl (by decide) rfl (fun ls hl => ?_)
              refine lv_aload_n hx hb dX7_reachBy_71 rfl (lv_at hl 1 rfl) ?_
              refine lv_iconst (v := 1) hx hb dX7_reachBy_72 (by decide) ?_
              refine lv_iload_n hx hb dX7_reachBy_73 rfl (lv_at hl 3 rfl) ?_
              refine lv_iload_n hx hb dX7_reachBy_74 rfl (lv_at hl 4 rfl) ?_
              refine lv_iload hx hb dX7_reachBy_75 (lv_at hl 5 rfl) ?_
              have hPc := hP.sub (ws' := [(xSta, .inr (7, [.int (-1), .ref fL, .ref fS, .ref fP, .ref fT, .ref fA, .ref fQ, .ref fR, .int (nI P.length), .ref fN])), (fS, .inl (cI, 3, (.inl fs)))]) [3, 4] rfl
              have hDc := hD.sub (ws' := [(xSta, .inr (7, [.int (-1), .ref fL, .ref fS, .ref fP, .ref fT, .ref fA, .ref fQ, .ref fR, .int (nI P.length), .ref fN])), (fS, .inl (cI, 3, (.inl fs)))]) [3, 4] (by decide) rfl
              have hFc := va_free (wc := [(xSta, .inr (7, [.int (-1), .ref fL, .ref fS, .ref fP, .ref fT, .ref fA, .ref fQ, .ref fR, .int (nI P.length), .ref fN])), (fS, .inl (cI, 3, (.inl fs)))]) hD hS hA [3, 4] rfl
              refine va_calli (va_runV (As := [.int 1, .int 2, .int 1, .int (nI n)]) (rest := []) ⟨hx, hb, hml, hown, hts⟩ (c_X7_sideThen_121 l dC dI cB cI cJ H.size xSta fL fS fP fT fA fQ fR fN (nI P.length) fs u1 n hs.2.1 (by omega) (by omega)) (cwV 4 hts gX7_reachBy_X7_sideThen rfl rfl rfl (by decide +kernel) ⟨Nat.le_of_ble_eq_true rfl, Nat.le_of_ble_eq_true rfl⟩) ⟨fun a U g mk q => by obtain ⟨q0, q1, qP, qK, qD⟩ := q; exact ⟨q0, q1, qP, va_K.moved (u := U) (U := U.calling g mk a) (Vm.Alike.refl U.vm) qK, qD⟩, va_recv hK hP (ci := 7) (q0 := 3) rfl rfl, fun U hU hW => ⟨rfl, by rw [hU], by rw [hU]; exact hPc, va_K.moved hW.alike hK, hDc.weaken (fun _ _ _ _ => trivial)⟩⟩ rfl rfl hl.1 rfl (lv_room (Nat.le_of_ble_eq_true rfl)) dX7_reachBy_77 ⟨Nat.le_of_ble_eq_true rfl, Nat.le_of_ble_eq_true rfl⟩) hS (fun q _ h => hFc q h) hFc (fun r_18 u t H1 locs ht hvm hw hB hz1 hk1 hS => ?_)
              obtain ⟨hP1, hK1, hD1⟩ := hB
              rw [ht] at hP1
              obtain ⟨hP, hD⟩ := va_join (wr := [(fA, .inl (cI, 576, (.inl ga))), (fQ, .inl (cI, 576, (.inl gq))), (fR, .inl (cI, 576, (.inl gr)))]) (w1 := [(xSta, .inr (7, [.int (-1), .ref fL, .ref fS, .ref fP, .ref fT, .ref fA, .ref fQ, .ref fR, .int (nI P.length), .ref fN])), (fS, .inl (cI, 3, (.inl fs)))]) hP hD [3, 4] [0, 1, 2] rfl rfl (by decide) (by decide) hk1 hFc hP1 hD1
              generalize H1 = H at hP hS ⊢
              have hP : va_P (dC, dI) vwCl [(fA, .inl (cI, 576, (.inl ga))), (fQ, .inl (cI, 576, (.inl gq))), (fR, .inl (cI, 576, (.inl gr))), (xSta, .inr (7, [.int (-1), .ref fL, .ref fS, .ref fP, .ref fT, .ref fA, .ref fQ, .ref fR, .int (nI P.length), .ref fN])), (fS, .inl (cI, 3, (.inl fs)))] H := hP
              have hD : va_D A [(fA, .inl (cI, 576, (.inl ga))), (fQ, .inl (cI, 576, (.inl gq))), (fR, .inl (cI, 576, (.inl gr))), (xSta, .inr (7, [.int (-1), .ref fL, .ref fS, .ref fP, .ref fT, .ref fA, .ref fQ, .ref fR, .int (nI P.length), .ref fN])), (fS, .inl (cI, 3, (.inl fs)))] := hD
              obtain rfl : r_18 = nI (u1 / (n - 1) * n) := hw
              refine lv_istore (lv' := [(6, .int (nI (u1 / (n - 1) * n))), (5, .int (nI (u0))), (0, .ref xSta), (1, .int (nI q)), (2, .int 2), (3, .int 1), (4, .int (nI n))]) hx hb dX7_reachBy_80 hl (by decide) rfl (fun ls hl => ?_)
              refine lv_iload hx hb dX7_reachBy_82 (lv_at hl 1 rfl) ?_
              refine lv_iload hx hb dX7_reachBy_84 (lv_at hl 0 rfl) ?_
              have hPc := hP.sub (ws' := []) [] rfl
              have hDc := hD.sub (ws' := []) [] (by decide) rfl
              have hFc := va_free (wc := []) hD hS hA [] rfl
              refine va_calli (va_runS (As := [.int (nI (u0)), .int (nI (u1 / (n - 1) * n))]) (rest := []) ⟨hx, hb, hml, hown, hts⟩ (c_X7_boxOf l dC dI cB cI cJ H.size u0 (u1 / (n - 1) * n) (by omega) (by omega)) (va_cwS 2 hts gX7_reachBy_X7_boxOf rfl rfl rfl (by decide +kernel) ⟨Nat.le_of_ble_eq_true rfl, Nat.le_of_ble_eq_true rfl⟩) ⟨fun a U g mk q => by obtain ⟨q0, q1, qP, qK, qD⟩ := q; exact ⟨q0, q1, qP, va_K.moved (u := U) (U := U.calling g mk a) (Vm.Alike.refl U.vm) qK, qD⟩, fun U hU hW => ⟨rfl, by rw [hU], by rw [hU]; exact hPc, va_K.moved hW.alike hK, hDc.weaken (fun _ _ _ _ => trivial)⟩⟩ rfl rfl hl.1 rfl (lv_room (Nat.le_of_ble_eq_true rfl)) dX7_reachBy_86 ⟨Nat.le_of_ble_eq_true rfl, Nat.le_of_ble_eq_true rfl⟩) hS (fun q _ h => hFc q h) hFc (fun r_19 u t H1 locs ht hvm hw hB hz1 hk1 hS => ?_)
              have hP1 : va_P (dC, dI) vwCl [] H1 := fun k q h => by simp at h
              have hD1 : va_D (va_A [] H.size) [] := ⟨fun i j p q h => by simp at h, fun k q h => by simp at h⟩
              obtain ⟨hP, hD⟩ := va_join (wr := [(fA, .inl (cI, 576, (.inl ga))), (fQ, .inl (cI, 576, (.inl gq))), (fR, .inl (cI, 576, (.inl gr))), (xSta, .inr (7, [.int (-1), .ref fL, .ref fS, .ref fP, .ref fT, .ref fA, .ref fQ, .ref fR, .int (nI P.length), .ref fN])), (fS, .inl (cI, 3, (.inl fs)))]) (w1 := []) hP hD [] [0, 1, 2, 3, 4] rfl rfl (by decide) (by decide) hk1 hFc hP1 hD1
              generalize H1 = H at hP hS ⊢
              have hP : va_P (dC, dI) vwCl [(fA, .inl (cI, 576, (.inl ga))), (fQ, .inl (cI, 576, (.inl gq))), (fR, .inl (cI, 576, (.inl gr))), (xSta, .inr (7, [.int (-1), .ref fL, .ref fS, .ref fP, .ref fT, .ref fA, .ref fQ, .ref fR, .int (nI P.length), .ref fN])), (fS, .inl (cI, 3, (.inl fs)))] H := hP
              have hD : va_D A [(fA, .inl (cI, 576, (.inl ga))), (fQ, .inl (cI, 576, (.inl gq))), (fR, .inl (cI, 576, (.inl gr))), (xSta, .inr (7, [.int (-1), .ref fL, .ref fS, .ref fP, .ref fT, .ref fA, .ref fQ, .ref fR, .int (nI P.length), .ref fN])), (fS, .inl (cI, 3, (.inl fs)))] := hD
              obtain rfl : r_19 = nI ((u0 - 1) * 24 + (u1 / (n - 1) * n - 1)) := hw
              have hcd : (u0 - 1) * 24 + ((u1 / (n - 1) * n) - 1) = bx_cd (st_go u0 u1 u2 2 1 n) := (bx_cd_mk (x := u0) (y := u1 / (n - 1) * n) (z := u2 / n * (n - 1)) (by omega) (by omega)).symm
              rw [hcd]
              have hlt := bx_cd_lt hgo
              refine lv_istore (lv' := [(7, .int (nI (bx_cd (st_go u0 u1 u2 2 1 n)))), (6, .int (nI (u1 / (n - 1) * n))), (5, .int (nI (u0))), (0, .ref xSta), (1, .int (nI q)), (2, .int 2), (3, .int 1), (4, .int (nI n))]) hx hb dX7_reachBy_89 hl (by decide) rfl (fun ls hl => ?_)
              refine lv_aload_n hx hb dX7_reachBy_91 rfl (lv_at hl 3 rfl) ?_
              refine va_get (D := (dC, dI)) (ci := 7) (v := .ref fA) (C := RX7) (T := TX7) (N := 10) hx hb hts hiX7 hown hK hP 3 rfl rfl 5 (by decide) (hts (.fieldLink RX7 28 "ScissorsTable$Stairs" "ahead" "[I") (by decide +kernel)) (fun _ h9 => h9) rfl dX7_reachBy_92 ?_
              refine lv_iload hx hb dX7_reachBy_95 (lv_at hl 0 rfl) ?_
              refine va_iald hx hb hK hP 0 1 rfl rfl (vp_in_nI (by omega) (by decide)) dX7_reachBy_97 ?_
              refine lv_topi (fun x_20 ex_20 => ?_)
              rw [nI_clamp (show bx_cd (st_go u0 u1 u2 2 1 n) < 2 ^ 31 by omega)] at ex_20
              refine lv_iconst (v := (-1)) hx hb dX7_reachBy_98 (by decide) ?_
              refine lv_icmp_ne (tgt := 159) hx hb dX7_reachBy_99 (by decide) (fun c_21 => ?_) (fun c_21 => ?_)
              · have hh : q_has P (st_go u0 u1 u2 2 1 n) = true := RC_yes hPR hPI hgo (fun q9 => c_21 (ex_20.trans q9))
                rw [q_see_yes hh] at hPT
                obtain ⟨x_22, ex_22⟩ : ∃ y : Int32, y = (nI n) + 1 := ⟨_, rfl⟩
                refine lv_iinc (v := x_22) (lv' := [(4, .int x_22), (7, .int (nI (bx_cd (st_go u0 u1 u2 2 1 n)))), (6, .int (nI (u1 / (n - 1) * n))), (5, .int (nI (u0))), (0, .ref xSta), (1, .int (nI q)), (2, .int 2), (3, .int 1)]) hx hb dX7_reachBy_159 hl (k := 7) rfl (by rw [ex_22]; rfl) (by decide) rfl (fun ls hl => ?_)
                obtain rfl : x_22 = nI (n + 1) := ex_22.trans (nI_1 n)
                have hl : lv_has ls 8 [(4, .int (nI (n + 1))), (7, .int (nI (bx_cd (st_go u0 u1 u2 2 1 n)))), (6, .int (nI (u1 / (n - 1) * n))), (5, .int (nI (u0))), (0, .ref xSta), (1, .int (nI q)), (2, .int 2), (3, .int 1)] := hl
                refine lv_goto (tgt := 3) hx hb dX7_reachBy_162 (by decide) ?_
                exact out _ _ _ (ih (n + 1) P ga gq gr (by omega) (by omega) (by omega) hP0 hPI hPR hPT _ _ (hP.sub [3, 4, 0, 1, 2] rfl) (hD.sub [3, 4, 0, 1, 2] (by decide) rfl) hS ls (lv_sub hl [4, 5, 6, 7, 0] rfl))
              · have hh : q_has P (st_go u0 u1 u2 2 1 n) = false := RC_no hPR hPI hgo (ex_20.symm.trans c_21)
                rw [q_see_no hh] at hPT
                have hPl2 : P.length < 576 := by
                  have h9 := Nat.le_trans (q_pre_len (hPT ▸ q_sees_pre k (d + 1) (nb_n u0 u1 u2 2 1 (25 - (n + 1)) (n + 1)) _)) hTl
                  rw [List.length_append] at h9
                  exact h9
                refine lv_aload_n hx hb dX7_reachBy_102 rfl (lv_at hl 3 rfl) ?_
                refine va_get (D := (dC, dI)) (ci := 7) (v := .int (nI P.length)) (C := RX7) (T := TX7) (N := 10) hx hb hts hiX7 hown hK hP 3 rfl rfl 8 (by decide) (hts (.fieldLink RX7 55 "ScissorsTable$Stairs" "queued" "I") (by decide +kernel)) (fun _ h9 => h9) rfl dX7_reachBy_103 ?_
                refine lv_sipush (v := 576) hx hb dX7_reachBy_106 (by decide) ?_
                refine lv_icmp_ge (tgt := 159) hx hb dX7_reachBy_109 (by decide) (fun c_23 => ?_) (fun c_23 => ?_)
                · have c_23 : 576 ≤ P.length := (nI_leI (a := 576) (b := P.length) (by omega) (by omega)).mp c_23
                  exfalso
                  omega
                · have c_23 : ¬ 576 ≤ P.length := fun q9 => c_23 ((nI_leI (a := 576) (b := P.length) (by omega) (by omega)).mpr q9)
                  refine lv_aload_n hx hb dX7_reachBy_112 rfl (lv_at hl 3 rfl) ?_
                  refine va_get (D := (dC, dI)) (ci := 7) (v := .ref fA) (C := RX7) (T := TX7) (N := 10) hx hb hts hiX7 hown hK hP 3 rfl rfl 5 (by decide) (hts (.fieldLink RX7 28 "ScissorsTable$Stairs" "ahead" "[I") (by decide +kernel)) (fun _ h9 => h9) rfl dX7_reachBy_113 ?_
                  refine lv_iload hx hb dX7_reachBy_116 (lv_at hl 0 rfl) ?_
                  refine lv_iload_n hx hb dX7_reachBy_118 rfl (lv_at hl 4 rfl) ?_
                  refine va_iast hx hb hK hP hD hS 0 1 rfl rfl (vp_in_nI (by omega) (by decide)) dX7_reachBy_119 (fun H locs hP hD hS => ?_)
                  rw [nI_clamp (show bx_cd (st_go u0 u1 u2 2 1 n) < 2 ^ 31 by omega)] at hP hD
                  have hP : va_P (dC, dI) vwCl [(fA, .inl (cI, 576, (.inl (upd ga (bx_cd (st_go u0 u1 u2 2 1 n)) (nI q))))), (fQ, .inl (cI, 576, (.inl gq))), (fR, .inl (cI, 576, (.inl gr))), (xSta, .inr (7, [.int (-1), .ref fL, .ref fS, .ref fP, .ref fT, .ref fA, .ref fQ, .ref fR, .int (nI P.length), .ref fN])), (fS, .inl (cI, 3, (.inl fs)))] H := hP
                  have hD : va_D A [(fA, .inl (cI, 576, (.inl (upd ga (bx_cd (st_go u0 u1 u2 2 1 n)) (nI q))))), (fQ, .inl (cI, 576, (.inl gq))), (fR, .inl (cI, 576, (.inl gr))), (xSta, .inr (7, [.int (-1), .ref fL, .ref fS, .ref fP, .ref fT, .ref fA, .ref fQ, .ref fR, .int (nI P.length), .ref fN])), (fS, .inl (cI, 3, (.inl fs)))] := hD
                  refine lv_aload_n hx hb dX7_reachBy_120 rfl (lv_at hl 3 rfl) ?_
                  refine va_get (D := (dC, dI)) (ci := 7) (v := .ref fR) (C := RX7) (T := TX7) (N := 10) hx hb hts hiX7 hown hK hP 3 rfl rfl 7 (by decide) (hts (.fieldLink RX7 34 "ScissorsTable$Stairs" "reached" "[I") (by decide +kernel)) (fun _ h9 => h9) rfl dX7_reachBy_121 ?_
                  refine lv_iload hx hb dX7_reachBy_124 (lv_at hl 0 rfl) ?_
                  refine lv_iload_n hx hb dX7_reachBy_126 rfl (lv_at hl 5 rfl) ?_
                  refine lv_iconst (v := 3) hx hb dX7_reachBy_127 (by decide) ?_
                  refine lv_imul hx hb dX7_reachBy_128 ?_
                  refine lv_topi (fun x_24 ex_24 => ?_)
                  obtain rfl : x_24 = 6 := ex_24.trans (by first | rfl | decide)
                  refine lv_iload_n hx hb dX7_reachBy_129 rfl (lv_at hl 6 rfl) ?_
                  refine lv_iadd hx hb dX7_reachBy_130 ?_
                  refine lv_topi (fun x_25 ex_25 => ?_)
                  obtain rfl : x_25 = 7 := ex_25.trans (by first | rfl | decide)
                  refine lv_bipush (v := 25) hx hb dX7_reachBy_131 (by decide) ?_
                  refine lv_imul hx hb dX7_reachBy_133 ?_
                  refine lv_topi (fun x_26 ex_26 => ?_)
                  obtain rfl : x_26 = 175 := ex_26.trans (by first | rfl | decide)
                  refine lv_iload hx hb dX7_reachBy_134 (lv_at hl 7 rfl) ?_
                  refine lv_iadd hx hb dX7_reachBy_136 ?_
                  refine lv_topi (fun x_27 ex_27 => ?_)
                  obtain rfl : x_27 = nI (175 + n) := ex_27.trans (nI_add 175 n)
                  refine va_iast hx hb hK hP hD hS 2 1 rfl rfl (vp_in_nI (by omega) (by decide)) dX7_reachBy_137 (fun H locs hP hD hS => ?_)
                  rw [nI_clamp (show bx_cd (st_go u0 u1 u2 2 1 n) < 2 ^ 31 by omega)] at hP hD
                  have hP : va_P (dC, dI) vwCl [(fA, .inl (cI, 576, (.inl (upd ga (bx_cd (st_go u0 u1 u2 2 1 n)) (nI q))))), (fQ, .inl (cI, 576, (.inl gq))), (fR, .inl (cI, 576, (.inl (upd gr (bx_cd (st_go u0 u1 u2 2 1 n)) (nI (175 + n)))))), (xSta, .inr (7, [.int (-1), .ref fL, .ref fS, .ref fP, .ref fT, .ref fA, .ref fQ, .ref fR, .int (nI P.length), .ref fN])), (fS, .inl (cI, 3, (.inl fs)))] H := hP
                  have hD : va_D A [(fA, .inl (cI, 576, (.inl (upd ga (bx_cd (st_go u0 u1 u2 2 1 n)) (nI q))))), (fQ, .inl (cI, 576, (.inl gq))), (fR, .inl (cI, 576, (.inl (upd gr (bx_cd (st_go u0 u1 u2 2 1 n)) (nI (175 + n)))))), (xSta, .inr (7, [.int (-1), .ref fL, .ref fS, .ref fP, .ref fT, .ref fA, .ref fQ, .ref fR, .int (nI P.length), .ref fN])), (fS, .inl (cI, 3, (.inl fs)))] := hD
                  refine lv_aload_n hx hb dX7_reachBy_138 rfl (lv_at hl 3 rfl) ?_
                  refine va_get (D := (dC, dI)) (ci := 7) (v := .ref fQ) (C := RX7) (T := TX7) (N := 10) hx hb hts hiX7 hown hK hP 3 rfl rfl 6 (by decide) (hts (.fieldLink RX7 31 "ScissorsTable$Stairs" "queue" "[I") (by decide +kernel)) (fun _ h9 => h9) rfl dX7_reachBy_139 ?_
                  refine lv_aload_n hx hb dX7_reachBy_142 rfl (lv_at hl 3 rfl) ?_
                  refine va_get (D := (dC, dI)) (ci := 7) (v := .int (nI P.length)) (C := RX7) (T := TX7) (N := 10) hx hb hts hiX7 hown hK hP 3 rfl rfl 8 (by decide) (hts (.fieldLink RX7 55 "ScissorsTable$Stairs" "queued" "I") (by decide +kernel)) (fun _ h9 => h9) rfl dX7_reachBy_143 ?_
                  refine lv_iload hx hb dX7_reachBy_146 (lv_at hl 0 rfl) ?_
                  refine va_iast hx hb hK hP hD hS 1 1 rfl rfl (vp_in_nI (by omega) (by decide)) dX7_reachBy_148 (fun H locs hP hD hS => ?_)
                  rw [nI_clamp (show P.length < 2 ^ 31 by omega)] at hP hD
                  have hP : va_P (dC, dI) vwCl [(fA, .inl (cI, 576, (.inl (upd ga (bx_cd (st_go u0 u1 u2 2 1 n)) (nI q))))), (fQ, .inl (cI, 576, (.inl (upd gq P.length (nI (bx_cd (st_go u0 u1 u2 2 1 n))))))), (fR, .inl (cI, 576, (.inl (upd gr (bx_cd (st_go u0 u1 u2 2 1 n)) (nI (175 + n)))))), (xSta, .inr (7, [.int (-1), .ref fL, .ref fS, .ref fP, .ref fT, .ref fA, .ref fQ, .ref fR, .int (nI P.length), .ref fN])), (fS, .inl (cI, 3, (.inl fs)))] H := hP
                  have hD : va_D A [(fA, .inl (cI, 576, (.inl (upd ga (bx_cd (st_go u0 u1 u2 2 1 n)) (nI q))))), (fQ, .inl (cI, 576, (.inl (upd gq P.length (nI (bx_cd (st_go u0 u1 u2 2 1 n))))))), (fR, .inl (cI, 576, (.inl (upd gr (bx_cd (st_go u0 u1 u2 2 1 n)) (nI (175 + n)))))), (xSta, .inr (7, [.int (-1), .ref fL, .ref fS, .ref fP, .ref fT, .ref fA, .ref fQ, .ref fR, .int (nI P.length), .ref fN])), (fS, .inl (cI, 3, (.inl fs)))] := hD
                  refine lv_aload_n hx hb dX7_reachBy_149 rfl (lv_at hl 3 rfl) ?_
                  refine lv_dup hx hb dX7_reachBy_150 rfl ?_
                  refine va_get (D := (dC, dI)) (ci := 7) (v := .int (nI P.length)) (C := RX7) (T := TX7) (N := 10) hx hb hts hiX7 hown hK hP 3 rfl rfl 8 (by decide) (hts (.fieldLink RX7 55 "ScissorsTable$Stairs" "queued" "I") (by decide +kernel)) (fun _ h9 => h9) rfl dX7_reachBy_151 ?_
                  refine lv_iconst (v := 1) hx hb dX7_reachBy_154 (by decide) ?_
                  refine lv_iadd hx hb dX7_reachBy_155 ?_
                  refine lv_topi (fun x_28 ex_28 => ?_)
                  obtain rfl : x_28 = nI (P.length + 1) := ex_28.trans (nI_add P.length 1)
                  rw [show nI (P.length + 1) = nI (P ++ [(st_go u0 u1 u2 2 1 n, k, d + 1)]).length from congrArg nI nk_len]
                  refine va_put (D := (dC, dI)) (ci := 7) (v := .int (nI (P ++ [(st_go u0 u1 u2 2 1 n, k, d + 1)]).length)) (ty := .int) (C := RX7) (T := TX7) (N := 10) hx hb hts hiX7 tyX7 tyX7_ok nmX7 hown hK hP hD hS 3 rfl rfl 8 (by decide) (hts (.fieldLink RX7 55 "ScissorsTable$Stairs" "queued" "I") (by decide +kernel)) (fun _ h9 => h9) rfl (by decide +kernel) rfl rfl (Nat.le_of_ble_eq_true rfl) dX7_reachBy_156 (fun H locs hP hD hS => ?_)
                  have hP : va_P (dC, dI) vwCl [(fA, .inl (cI, 576, (.inl (upd ga (bx_cd (st_go u0 u1 u2 2 1 n)) (nI q))))), (fQ, .inl (cI, 576, (.inl (upd gq P.length (nI (bx_cd (st_go u0 u1 u2 2 1 n))))))), (fR, .inl (cI, 576, (.inl (upd gr (bx_cd (st_go u0 u1 u2 2 1 n)) (nI (175 + n)))))), (xSta, .inr (7, [.int (-1), .ref fL, .ref fS, .ref fP, .ref fT, .ref fA, .ref fQ, .ref fR, .int (nI (P ++ [(st_go u0 u1 u2 2 1 n, k, d + 1)]).length), .ref fN])), (fS, .inl (cI, 3, (.inl fs)))] H := hP
                  have hD : va_D A [(fA, .inl (cI, 576, (.inl (upd ga (bx_cd (st_go u0 u1 u2 2 1 n)) (nI q))))), (fQ, .inl (cI, 576, (.inl (upd gq P.length (nI (bx_cd (st_go u0 u1 u2 2 1 n))))))), (fR, .inl (cI, 576, (.inl (upd gr (bx_cd (st_go u0 u1 u2 2 1 n)) (nI (175 + n)))))), (xSta, .inr (7, [.int (-1), .ref fL, .ref fS, .ref fP, .ref fT, .ref fA, .ref fQ, .ref fR, .int (nI (P ++ [(st_go u0 u1 u2 2 1 n, k, d + 1)]).length), .ref fN])), (fS, .inl (cI, 3, (.inl fs)))] := hD
                  obtain ⟨x_29, ex_29⟩ : ∃ y : Int32, y = (nI n) + 1 := ⟨_, rfl⟩
                  refine lv_iinc (v := x_29) (lv' := [(4, .int x_29), (7, .int (nI (bx_cd (st_go u0 u1 u2 2 1 n)))), (6, .int (nI (u1 / (n - 1) * n))), (5, .int (nI (u0))), (0, .ref xSta), (1, .int (nI q)), (2, .int 2), (3, .int 1)]) hx hb dX7_reachBy_159 hl (k := 7) rfl (by rw [ex_29]; rfl) (by decide) rfl (fun ls hl => ?_)
                  obtain rfl : x_29 = nI (n + 1) := ex_29.trans (nI_1 n)
                  have hl : lv_has ls 8 [(4, .int (nI (n + 1))), (7, .int (nI (bx_cd (st_go u0 u1 u2 2 1 n)))), (6, .int (nI (u1 / (n - 1) * n))), (5, .int (nI (u0))), (0, .ref xSta), (1, .int (nI q)), (2, .int 2), (3, .int 1)] := hl
                  refine lv_goto (tgt := 3) hx hb dX7_reachBy_162 (by decide) ?_
                  exact out _ _ _ (ih (n + 1) _ _ _ _ (by omega) (by omega) (by omega) (q_app_old hP0) (by have h9 := q_in_add (k := k) (d := d + 1) hPI hgo; rw [q_see_no hh] at h9; exact h9) (by have h9 := RC_add (d := d + 1) hPR hPI hP0 hgo hh; have h8 : bx_cd ((bx_mk u0 u1 u2, pk, d) : qE).1 = q := hq.symm; rw [h8] at h9; exact h9) hPT _ _ (hP.sub [3, 4, 0, 1, 2] rfl) (hD.sub [3, 4, 0, 1, 2] (by decide) rfl) hS ls (lv_sub hl [4, 5, 6, 7, 0] rfl))
  exact loop 24 2 Q fa fq fr rfl (by omega) (by omega) hk hI hR hT _ _ (hP.sub [0, 1, 2, 3, 4] rfl) (hD.sub [0, 1, 2, 3, 4] (by decide) rfl) hS ls (lv_sub hl [1, 2, 3, 4, 0] rfl)
set_option maxHeartbeats 4000000 in
set_option maxRecDepth 100000 in
theorem c_X7_reachBy_22 (l : Launch) (dC : Nat → ClassId) (dI : Nat → Nat → Nat) (cB cI cJ : ClassId) (sz : Nat) (xSta : Nat) (q : Nat) : Met l yX7_reachBy wsX7_reachBy ({ frames := 1, cells := 0, slots := 0, locals := 24 }) (va_Pc [.ref xSta, .int (nI q), .int 2, .int 2] (fun U => U.heap.size = sz ∧ va_P (dC, dI) vwCl [] U.heap ∧ va_K (dC, dI) vwCl [(cB, .byte), (cI, .int), (cJ, .long)] U ∧ va_D (fun _ => True) [])) (va_Qv (fun _ : Unit => True) (fun _ _ => True) (va_A [] sz)) 0 0 (va_A [] sz) := by
  refine Met.ofW (cc := cX7_reachBy) (maxL := 8) (ret := none) (by decide) rfl ?_
  intro p e s m args below meth c s₁ B hml hv
  obtain ⟨rfl, hsz, hP, hK, hD0⟩ := hv
  have hx := B.exec
  have hb := B.bytes
  have hr := B.returns
  have hts := atoms_spec (ws := wsX7_reachBy) B.pre
  have hown : s.vm.findClass RX7 = some m.cls := findClass_of_methodNamed B.named
  have hlocks := B.notSynchronized
  subst hsz
  have hD := hD0.self (sz := s.heap.size)
  generalize hAe : va_A [] s.heap.size = A at hD ⊢
  have hA : ∀ q : Nat, s.heap.size ≤ q → A q := fun q h => by rw [← hAe]; exact Or.inr h
  have hS : va_S A s.heap s.heap [] := va_S.rf
  have hP : va_P (dC, dI) vwCl [] s.heap := hP
  have hl := lv_entry ([.ref xSta, .int (nI q), .int 2, .int 2]) (n := 8) (Nat.le_of_ble_eq_true rfl)
  rw [lg_entry_eq]
  generalize (lg_sl ([.ref xSta, .int (nI q), .int 2, .int 2]) ++ List.replicate (8 - (lg_sl ([.ref xSta, .int (nI q), .int 2, .int 2])).length) Slot.unset).toArray = ls at hl ⊢
  have hl : lv_has ls 8 [(0, .ref xSta), (1, .int (nI q)), (2, .int 2), (3, .int 2)] := hl
  refine lv_iconst (v := 2) hx hb dX7_reachBy_0 (by decide) ?_
  refine lv_istore (lv' := [(4, .int 2), (0, .ref xSta), (1, .int (nI q)), (2, .int 2), (3, .int 2)]) hx hb dX7_reachBy_1 hl (by decide) rfl (fun ls hl => ?_)
  refine lv_iload hx hb dX7_reachBy_3 (lv_at hl 0 rfl) ?_
  refine lv_bipush (v := 24) hx hb dX7_reachBy_5 (by decide) ?_
  refine lv_icmp_gt (tgt := 165) hx hb dX7_reachBy_7 (by decide) (fun c => absurd c (by decide)) (fun _ => ?_)
  refine lv_iload_n hx hb dX7_reachBy_10 rfl (lv_at hl 3 rfl) ?_
  refine lv_iload_n hx hb dX7_reachBy_11 rfl (lv_at hl 4 rfl) ?_
  refine lv_icmp_eq (tgt := 165) hx hb dX7_reachBy_12 (by decide) (fun _ => ?_) (fun c => absurd (by decide) c)
  refine W.widen (k := 0) (n := 0) (Nat.le_of_ble_eq_true rfl) (Nat.le_of_ble_eq_true rfl) ?_
  exact W.vret hx hb hr (fun t ht hW => ⟨⟨(), rfl, trivial, trivial⟩, hS.F ht⟩) hS.2.2 dX7_reachBy_165
