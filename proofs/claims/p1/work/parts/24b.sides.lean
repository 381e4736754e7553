theorem dX7_setSides_0 : decode cX7_setSides 0 = .ok (.aload_n 0, 1) := by decide +kernel
theorem dX7_setSides_1 : decode cX7_setSides 1 = .ok (.getfield 19, 3) := by decide +kernel
theorem dX7_setSides_4 : decode cX7_setSides 4 = .ok (.iconst 0, 1) := by decide +kernel
theorem dX7_setSides_5 : decode cX7_setSides 5 = .ok (.iload_n 1, 1) := by decide +kernel
theorem dX7_setSides_6 : decode cX7_setSides 6 = .ok (.bipush 24, 2) := by decide +kernel
theorem dX7_setSides_8 : decode cX7_setSides 8 = .ok (.idiv, 1) := by decide +kernel
theorem dX7_setSides_9 : decode cX7_setSides 9 = .ok (.iconst 1, 1) := by decide +kernel
theorem dX7_setSides_10 : decode cX7_setSides 10 = .ok (.iadd, 1) := by decide +kernel
theorem dX7_setSides_11 : decode cX7_setSides 11 = .ok (.iastore, 1) := by decide +kernel
theorem dX7_setSides_12 : decode cX7_setSides 12 = .ok (.aload_n 0, 1) := by decide +kernel
theorem dX7_setSides_13 : decode cX7_setSides 13 = .ok (.getfield 19, 3) := by decide +kernel
theorem dX7_setSides_16 : decode cX7_setSides 16 = .ok (.iconst 1, 1) := by decide +kernel
theorem dX7_setSides_17 : decode cX7_setSides 17 = .ok (.iload_n 1, 1) := by decide +kernel
theorem dX7_setSides_18 : decode cX7_setSides 18 = .ok (.bipush 24, 2) := by decide +kernel
theorem dX7_setSides_20 : decode cX7_setSides 20 = .ok (.irem, 1) := by decide +kernel
theorem dX7_setSides_21 : decode cX7_setSides 21 = .ok (.iconst 1, 1) := by decide +kernel
theorem dX7_setSides_22 : decode cX7_setSides 22 = .ok (.iadd, 1) := by decide +kernel
theorem dX7_setSides_23 : decode cX7_setSides 23 = .ok (.iastore, 1) := by decide +kernel
theorem dX7_setSides_24 : decode cX7_setSides 24 = .ok (.aload_n 0, 1) := by decide +kernel
theorem dX7_setSides_25 : decode cX7_setSides 25 = .ok (.getfield 19, 3) := by decide +kernel
theorem dX7_setSides_28 : decode cX7_setSides 28 = .ok (.iconst 0, 1) := by decide +kernel
theorem dX7_setSides_29 : decode cX7_setSides 29 = .ok (.iaload, 1) := by decide +kernel
theorem dX7_setSides_30 : decode cX7_setSides 30 = .ok (.aload_n 0, 1) := by decide +kernel
theorem dX7_setSides_31 : decode cX7_setSides 31 = .ok (.getfield 19, 3) := by decide +kernel
theorem dX7_setSides_34 : decode cX7_setSides 34 = .ok (.iconst 1, 1) := by decide +kernel
theorem dX7_setSides_35 : decode cX7_setSides 35 = .ok (.iaload, 1) := by decide +kernel
theorem dX7_setSides_36 : decode cX7_setSides 36 = .ok (.imul, 1) := by decide +kernel
theorem dX7_setSides_37 : decode cX7_setSides 37 = .ok (.istore_n 3, 1) := by decide +kernel
theorem dX7_setSides_38 : decode cX7_setSides 38 = .ok (.aload_n 0, 1) := by decide +kernel
theorem dX7_setSides_39 : decode cX7_setSides 39 = .ok (.getfield 19, 3) := by decide +kernel
theorem dX7_setSides_42 : decode cX7_setSides 42 = .ok (.iconst 2, 1) := by decide +kernel
theorem dX7_setSides_43 : decode cX7_setSides 43 = .ok (.iload_n 3, 1) := by decide +kernel
theorem dX7_setSides_44 : decode cX7_setSides 44 = .ok (.ifCond .le 9, 3) := by decide +kernel
theorem dX7_setSides_47 : decode cX7_setSides 47 = .ok (.iload_n 2, 1) := by decide +kernel
theorem dX7_setSides_48 : decode cX7_setSides 48 = .ok (.iload_n 3, 1) := by decide +kernel
theorem dX7_setSides_49 : decode cX7_setSides 49 = .ok (.idiv, 1) := by decide +kernel
theorem dX7_setSides_50 : decode cX7_setSides 50 = .ok (.goto 4, 3) := by decide +kernel
theorem dX7_setSides_54 : decode cX7_setSides 54 = .ok (.iastore, 1) := by decide +kernel
theorem dX7_setSides_55 : decode cX7_setSides 55 = .ok (.return_, 1) := by decide +kernel
theorem dX7_sideThen_0 : decode cX7_sideThen 0 = .ok (.iload_n 1, 1) := by decide +kernel
theorem dX7_sideThen_1 : decode cX7_sideThen 1 = .ok (.iload_n 2, 1) := by decide +kernel
theorem dX7_sideThen_2 : decode cX7_sideThen 2 = .ok (.if_icmp .ne 18, 3) := by decide +kernel
theorem dX7_sideThen_5 : decode cX7_sideThen 5 = .ok (.aload_n 0, 1) := by decide +kernel
theorem dX7_sideThen_6 : decode cX7_sideThen 6 = .ok (.getfield 19, 3) := by decide +kernel
theorem dX7_sideThen_9 : decode cX7_sideThen 9 = .ok (.iload_n 2, 1) := by decide +kernel
theorem dX7_sideThen_10 : decode cX7_sideThen 10 = .ok (.iaload, 1) := by decide +kernel
theorem dX7_sideThen_11 : decode cX7_sideThen 11 = .ok (.iload 4, 2) := by decide +kernel
theorem dX7_sideThen_13 : decode cX7_sideThen 13 = .ok (.idiv, 1) := by decide +kernel
theorem dX7_sideThen_14 : decode cX7_sideThen 14 = .ok (.iload 4, 2) := by decide +kernel
theorem dX7_sideThen_16 : decode cX7_sideThen 16 = .ok (.iconst 1, 1) := by decide +kernel
theorem dX7_sideThen_17 : decode cX7_sideThen 17 = .ok (.isub, 1) := by decide +kernel
theorem dX7_sideThen_18 : decode cX7_sideThen 18 = .ok (.imul, 1) := by decide +kernel
theorem dX7_sideThen_19 : decode cX7_sideThen 19 = .ok (.ireturn, 1) := by decide +kernel
theorem dX7_sideThen_20 : decode cX7_sideThen 20 = .ok (.iload_n 1, 1) := by decide +kernel
theorem dX7_sideThen_21 : decode cX7_sideThen 21 = .ok (.iload_n 3, 1) := by decide +kernel
theorem dX7_sideThen_22 : decode cX7_sideThen 22 = .ok (.if_icmp .ne 20, 3) := by decide +kernel
theorem dX7_sideThen_25 : decode cX7_sideThen 25 = .ok (.aload_n 0, 1) := by decide +kernel
theorem dX7_sideThen_26 : decode cX7_sideThen 26 = .ok (.getfield 19, 3) := by decide +kernel
theorem dX7_sideThen_29 : decode cX7_sideThen 29 = .ok (.iload_n 3, 1) := by decide +kernel
theorem dX7_sideThen_30 : decode cX7_sideThen 30 = .ok (.iaload, 1) := by decide +kernel
theorem dX7_sideThen_31 : decode cX7_sideThen 31 = .ok (.iload 4, 2) := by decide +kernel
theorem dX7_sideThen_33 : decode cX7_sideThen 33 = .ok (.iconst 1, 1) := by decide +kernel
theorem dX7_sideThen_34 : decode cX7_sideThen 34 = .ok (.isub, 1) := by decide +kernel
theorem dX7_sideThen_35 : decode cX7_sideThen 35 = .ok (.idiv, 1) := by decide +kernel
theorem dX7_sideThen_36 : decode cX7_sideThen 36 = .ok (.iload 4, 2) := by decide +kernel
theorem dX7_sideThen_38 : decode cX7_sideThen 38 = .ok (.imul, 1) := by decide +kernel
theorem dX7_sideThen_39 : decode cX7_sideThen 39 = .ok (.goto 9, 3) := by decide +kernel
theorem dX7_sideThen_42 : decode cX7_sideThen 42 = .ok (.aload_n 0, 1) := by decide +kernel
theorem dX7_sideThen_43 : decode cX7_sideThen 43 = .ok (.getfield 19, 3) := by decide +kernel
theorem dX7_sideThen_46 : decode cX7_sideThen 46 = .ok (.iload_n 1, 1) := by decide +kernel
theorem dX7_sideThen_47 : decode cX7_sideThen 47 = .ok (.iaload, 1) := by decide +kernel
theorem dX7_sideThen_48 : decode cX7_sideThen 48 = .ok (.ireturn, 1) := by decide +kernel
set_option maxHeartbeats 4000000 in
set_option maxRecDepth 100000 in
theorem c_X7_setSides (l : Launch) (dC : Nat → ClassId) (dI : Nat → Nat → Nat) (cB cI cJ : ClassId) (sz : Nat) (xSta fL fS fP fT fA fQ fR fN : Nat) (w9 : Int32) (fs : Nat → Int32) (V u0 u1 u2 q : Nat) (hu : (1 ≤ u0 ∧ u0 ≤ 24) ∧ (1 ≤ u1 ∧ u1 ≤ 24) ∧ (1 ≤ u2 ∧ u2 ≤ 24)) (hV : u0 * u1 * u2 = V) (hV2 : V ≤ 1728) (hq : q = (u0 - 1) * 24 + (u1 - 1)) : Met l yX7_setSides wsX7_setSides ({ frames := 1, cells := 0, slots := 0, locals := 24 }) (va_Pc [.ref xSta, .int (nI q), .int (nI V)] (fun U => U.heap.size = sz ∧ va_P (dC, dI) vwCl [(xSta, .inr (7, [.int (-1), .ref fL, .ref fS, .ref fP, .ref fT, .ref fA, .ref fQ, .ref fR, .int w9, .ref fN])), (fS, .inl (cI, 3, (.inl fs)))] U.heap ∧ va_K (dC, dI) vwCl [(cB, .byte), (cI, .int), (cJ, .long)] U ∧ va_D (fun _ => True) [(xSta, .inr (7, [.int (-1), .ref fL, .ref fS, .ref fP, .ref fT, .ref fA, .ref fQ, .ref fR, .int w9, .ref fN])), (fS, .inl (cI, 3, (.inl fs)))])) (va_Qv (fun _ : Unit => True) (fun _ t => ∃ fz : Nat → Int32, (fz 0 = nI u0 ∧ fz 1 = nI u1 ∧ fz 2 = nI u2) ∧ va_P (dC, dI) vwCl [(xSta, .inr (7, [.int (-1), .ref fL, .ref fS, .ref fP, .ref fT, .ref fA, .ref fQ, .ref fR, .int w9, .ref fN])), (fS, .inl (cI, 3, (.inl fz)))] t.heap ∧ va_K (dC, dI) vwCl [(cB, .byte), (cI, .int), (cJ, .long)] t ∧ va_D (va_A [(xSta, .inr (7, [.int (-1), .ref fL, .ref fS, .ref fP, .ref fT, .ref fA, .ref fQ, .ref fR, .int w9, .ref fN])), (fS, .inl (cI, 3, (.inl fs)))] sz) [(xSta, .inr (7, [.int (-1), .ref fL, .ref fS, .ref fP, .ref fT, .ref fA, .ref fQ, .ref fR, .int w9, .ref fN])), (fS, .inl (cI, 3, (.inl fz)))]) (va_A [(xSta, .inr (7, [.int (-1), .ref fL, .ref fS, .ref fP, .ref fT, .ref fA, .ref fQ, .ref fR, .int w9, .ref fN])), (fS, .inl (cI, 3, (.inl fs)))] sz)) 0 0 (va_A [(xSta, .inr (7, [.int (-1), .ref fL, .ref fS, .ref fP, .ref fT, .ref fA, .ref fQ, .ref fR, .int w9, .ref fN])), (fS, .inl (cI, 3, (.inl fs)))] sz) := by
  refine Met.ofW (cc := cX7_setSides) (maxL := 4) (ret := none) (by decide) rfl ?_
  intro p e s m args below meth c s₁ B hml hv
  obtain ⟨rfl, hsz, hP, hK, hD0⟩ := hv
  have hx := B.exec
  have hb := B.bytes
  have hr := B.returns
  have hts := atoms_spec (ws := wsX7_setSides) B.pre
  have hown : s.vm.findClass RX7 = some m.cls := findClass_of_methodNamed B.named
  have hlocks := B.notSynchronized
  have hiX7 : ∀ w ∈ u_ws RX7 TX7 10, w ∈ wsX7_setSides := by decide +kernel
  subst hsz
  have hD := hD0.self (sz := s.heap.size)
  generalize hAe : va_A [(xSta, .inr (7, [.int (-1), .ref fL, .ref fS, .ref fP, .ref fT, .ref fA, .ref fQ, .ref fR, .int w9, .ref fN])), (fS, .inl (cI, 3, (.inl fs)))] s.heap.size = A at hD ⊢
  have hA : ∀ q : Nat, s.heap.size ≤ q → A q := fun q h => by rw [← hAe]; exact Or.inr h
  have hS : va_S A s.heap s.heap [] := va_S.rf
  have hP : va_P (dC, dI) vwCl [(xSta, .inr (7, [.int (-1), .ref fL, .ref fS, .ref fP, .ref fT, .ref fA, .ref fQ, .ref fR, .int w9, .ref fN])), (fS, .inl (cI, 3, (.inl fs)))] s.heap := hP
  have hl := lv_entry ([.ref xSta, .int (nI q), .int (nI V)]) (n := 4) (Nat.le_of_ble_eq_true rfl)
  rw [lg_entry_eq]
  generalize (lg_sl ([.ref xSta, .int (nI q), .int (nI V)]) ++ List.replicate (4 - (lg_sl ([.ref xSta, .int (nI q), .int (nI V)])).length) Slot.unset).toArray = ls at hl ⊢
  have hl : lv_has ls 4 [(0, .ref xSta), (1, .int (nI q)), (2, .int (nI V))] := hl
  have hm : u0 * u1 ≤ 24 * 24 := Nat.mul_le_mul hu.1.2 hu.2.1.2
  have hp : 0 < u0 * u1 := Nat.mul_pos hu.1.1 hu.2.1.1
  refine lv_aload_n hx hb dX7_setSides_0 rfl (lv_at hl 0 rfl) ?_
  refine va_get (D := (dC, dI)) (ci := 7) (v := .ref fS) (C := RX7) (T := TX7) (N := 10) hx hb hts hiX7 hown hK hP 0 rfl rfl 2 (by decide) (hts (.fieldLink RX7 19 "ScissorsTable$Stairs" "sides" "[I") (by decide +kernel)) (fun _ h9 => h9) rfl dX7_setSides_1 ?_
  refine lv_iconst (v := 0) hx hb dX7_setSides_4 (by decide) ?_
  refine lv_iload_n hx hb dX7_setSides_5 rfl (lv_at hl 1 rfl) ?_
  refine lv_bipush (v := 24) hx hb dX7_setSides_6 (by decide) ?_
  refine lv_idiv hx hb dX7_setSides_8 (by decide) ?_
  refine lv_topi (fun x_1 ex_1 => ?_)
  obtain rfl : x_1 = nI (q / 24) := ex_1.trans (pk_div (a := q) (d := 24) (by omega) (by omega) (by omega))
  refine lv_iconst (v := 1) hx hb dX7_setSides_9 (by decide) ?_
  refine lv_iadd hx hb dX7_setSides_10 ?_
  refine lv_topi (fun x_2 ex_2 => ?_)
  obtain rfl : x_2 = nI u0 := ex_2.trans ((nI_add (q / 24) 1).trans (congrArg nI (show (q / 24) + 1 = u0 from (by omega))))
  refine va_iast hx hb hK hP hD hS 1 1 rfl rfl (by show ¬ (_ ∨ _); decide) dX7_setSides_11 (fun H locs hP hD hS => ?_)
  rw [show (0 : Int32).toNatClampNeg = 0 from rfl] at hP hD
  have hP : va_P (dC, dI) vwCl [(xSta, .inr (7, [.int (-1), .ref fL, .ref fS, .ref fP, .ref fT, .ref fA, .ref fQ, .ref fR, .int w9, .ref fN])), (fS, .inl (cI, 3, (.inl (upd fs 0 (nI u0)))))] H := hP
  have hD : va_D A [(xSta, .inr (7, [.int (-1), .ref fL, .ref fS, .ref fP, .ref fT, .ref fA, .ref fQ, .ref fR, .int w9, .ref fN])), (fS, .inl (cI, 3, (.inl (upd fs 0 (nI u0)))))] := hD
  refine lv_aload_n hx hb dX7_setSides_12 rfl (lv_at hl 0 rfl) ?_
  refine va_get (D := (dC, dI)) (ci := 7) (v := .ref fS) (C := RX7) (T := TX7) (N := 10) hx hb hts hiX7 hown hK hP 0 rfl rfl 2 (by decide) (hts (.fieldLink RX7 19 "ScissorsTable$Stairs" "sides" "[I") (by decide +kernel)) (fun _ h9 => h9) rfl dX7_setSides_13 ?_
  refine lv_iconst (v := 1) hx hb dX7_setSides_16 (by decide) ?_
  refine lv_iload_n hx hb dX7_setSides_17 rfl (lv_at hl 1 rfl) ?_
  refine lv_bipush (v := 24) hx hb dX7_setSides_18 (by decide) ?_
  refine lv_irem hx hb dX7_setSides_20 (by decide) ?_
  refine lv_topi (fun x_3 ex_3 => ?_)
  obtain rfl : x_3 = nI (q % 24) := ex_3.trans (pk_rem (a := q) (d := 24) (by omega) (by omega) (by omega))
  refine lv_iconst (v := 1) hx hb dX7_setSides_21 (by decide) ?_
  refine lv_iadd hx hb dX7_setSides_22 ?_
  refine lv_topi (fun x_4 ex_4 => ?_)
  obtain rfl : x_4 = nI u1 := ex_4.trans ((nI_add (q % 24) 1).trans (congrArg nI (show (q % 24) + 1 = u1 from (by omega))))
  refine va_iast hx hb hK hP hD hS 1 1 rfl rfl (by show ¬ (_ ∨ _); decide) dX7_setSides_23 (fun H locs hP hD hS => ?_)
  rw [show (1 : Int32).toNatClampNeg = 1 from rfl] at hP hD
  have hP : va_P (dC, dI) vwCl [(xSta, .inr (7, [.int (-1), .ref fL, .ref fS, .ref fP, .ref fT, .ref fA, .ref fQ, .ref fR, .int w9, .ref fN])), (fS, .inl (cI, 3, (.inl (upd (upd fs 0 (nI u0)) 1 (nI u1)))))] H := hP
  have hD : va_D A [(xSta, .inr (7, [.int (-1), .ref fL, .ref fS, .ref fP, .ref fT, .ref fA, .ref fQ, .ref fR, .int w9, .ref fN])), (fS, .inl (cI, 3, (.inl (upd (upd fs 0 (nI u0)) 1 (nI u1)))))] := hD
  refine lv_aload_n hx hb dX7_setSides_24 rfl (lv_at hl 0 rfl) ?_
  refine va_get (D := (dC, dI)) (ci := 7) (v := .ref fS) (C := RX7) (T := TX7) (N := 10) hx hb hts hiX7 hown hK hP 0 rfl rfl 2 (by decide) (hts (.fieldLink RX7 19 "ScissorsTable$Stairs" "sides" "[I") (by decide +kernel)) (fun _ h9 => h9) rfl dX7_setSides_25 ?_
  refine lv_iconst (v := 0) hx hb dX7_setSides_28 (by decide) ?_
  refine va_iald hx hb hK hP 1 1 rfl rfl (by show ¬ (_ ∨ _); decide) dX7_setSides_29 ?_
  refine lv_topi (fun x_5 ex_5 => ?_)
  have ex_5 : x_5 = (upd (upd fs 0 (nI u0)) 1 (nI u1)) 0 := ex_5
  obtain rfl : x_5 = nI u0 := ex_5.trans rfl
  refine lv_aload_n hx hb dX7_setSides_30 rfl (lv_at hl 0 rfl) ?_
  refine va_get (D := (dC, dI)) (ci := 7) (v := .ref fS) (C := RX7) (T := TX7) (N := 10) hx hb hts hiX7 hown hK hP 0 rfl rfl 2 (by decide) (hts (.fieldLink RX7 19 "ScissorsTable$Stairs" "sides" "[I") (by decide +kernel)) (fun _ h9 => h9) rfl dX7_setSides_31 ?_
  refine lv_iconst (v := 1) hx hb dX7_setSides_34 (by decide) ?_
  refine va_iald hx hb hK hP 1 1 rfl rfl (by show ¬ (_ ∨ _); decide) dX7_setSides_35 ?_
  refine lv_topi (fun x_6 ex_6 => ?_)
  have ex_6 : x_6 = (upd (upd fs 0 (nI u0)) 1 (nI u1)) 1 := ex_6
  obtain rfl : x_6 = nI u1 := ex_6.trans rfl
  refine lv_imul hx hb dX7_setSides_36 ?_
  refine lv_topi (fun x_7 ex_7 => ?_)
  obtain rfl : x_7 = nI (u0 * u1) := ex_7.trans (pk_mul u0 u1)
  refine lv_istore_n (lv' := [(3, .int (nI (u0 * u1))), (0, .ref xSta), (1, .int (nI q)), (2, .int (nI V))]) hx hb dX7_setSides_37 rfl hl (by decide) rfl (fun ls hl => ?_)
  refine lv_aload_n hx hb dX7_setSides_38 rfl (lv_at hl 1 rfl) ?_
  refine va_get (D := (dC, dI)) (ci := 7) (v := .ref fS) (C := RX7) (T := TX7) (N := 10) hx hb hts hiX7 hown hK hP 0 rfl rfl 2 (by decide) (hts (.fieldLink RX7 19 "ScissorsTable$Stairs" "sides" "[I") (by decide +kernel)) (fun _ h9 => h9) rfl dX7_setSides_39 ?_
  refine lv_iconst (v := 2) hx hb dX7_setSides_42 (by decide) ?_
  refine lv_iload_n hx hb dX7_setSides_43 rfl (lv_at hl 0 rfl) ?_
  refine lv_if_le (tgt := 53) hx hb dX7_setSides_44 (by decide) (fun c_8 => ?_) (fun c_8 => ?_)
  · have c_8 : (u0 * u1) ≤ 0 := (nI_leI (a := u0 * u1) (b := 0) (by omega) (by omega)).mp c_8
    exfalso
    omega
  · have c_8 : ¬ (u0 * u1) ≤ 0 := fun q9 => c_8 ((nI_leI (a := u0 * u1) (b := 0) (by omega) (by omega)).mpr q9)
    refine lv_iload_n hx hb dX7_setSides_47 rfl (lv_at hl 3 rfl) ?_
    refine lv_iload_n hx hb dX7_setSides_48 rfl (lv_at hl 0 rfl) ?_
    refine lv_idiv hx hb dX7_setSides_49 (nI_ne0 (by omega) (by omega)) ?_
    refine lv_topi (fun x_9 ex_9 => ?_)
    obtain rfl : x_9 = nI u2 := ex_9.trans ((pk_div (a := V) (d := u0 * u1) (by omega) (by omega) (by omega)).trans (congrArg nI (show V / (u0 * u1) = u2 from (by rw [← hV]; exact Nat.mul_div_cancel_left u2 hp))))
    refine lv_goto (tgt := 54) hx hb dX7_setSides_50 (by decide) ?_
    refine va_iast hx hb hK hP hD hS 1 1 rfl rfl (by show ¬ (_ ∨ _); decide) dX7_setSides_54 (fun H locs hP hD hS => ?_)
    rw [show (2 : Int32).toNatClampNeg = 2 from rfl] at hP hD
    have hP : va_P (dC, dI) vwCl [(xSta, .inr (7, [.int (-1), .ref fL, .ref fS, .ref fP, .ref fT, .ref fA, .ref fQ, .ref fR, .int w9, .ref fN])), (fS, .inl (cI, 3, (.inl (upd (upd (upd fs 0 (nI u0)) 1 (nI u1)) 2 (nI u2)))))] H := hP
    have hD : va_D A [(xSta, .inr (7, [.int (-1), .ref fL, .ref fS, .ref fP, .ref fT, .ref fA, .ref fQ, .ref fR, .int w9, .ref fN])), (fS, .inl (cI, 3, (.inl (upd (upd (upd fs 0 (nI u0)) 1 (nI u1)) 2 (nI u2)))))] := hD
    have hP9 := hP.sub (ws' := [(xSta, .inr (7, [.int (-1), .ref fL, .ref fS, .ref fP, .ref fT, .ref fA, .ref fQ, .ref fR, .int w9, .ref fN])), (fS, .inl (cI, 3, (.inl (upd (upd (upd fs 0 (nI u0)) 1 (nI u1)) 2 (nI u2)))))]) [0, 1] rfl
    have hD9 := hD.sub (ws' := [(xSta, .inr (7, [.int (-1), .ref fL, .ref fS, .ref fP, .ref fT, .ref fA, .ref fQ, .ref fR, .int w9, .ref fN])), (fS, .inl (cI, 3, (.inl (upd (upd (upd fs 0 (nI u0)) 1 (nI u1)) 2 (nI u2)))))]) [0, 1] (by decide) rfl
    refine W.widen (k := 0) (n := 0) (Nat.le_of_ble_eq_true rfl) (Nat.le_of_ble_eq_true rfl) ?_
    exact W.vret hx hb hr (fun t ht hW => ⟨⟨(), rfl, trivial, (upd (upd (upd fs 0 (nI u0)) 1 (nI u1)) 2 (nI u2)), ⟨rfl, rfl, rfl⟩, by rw [ht]; exact hP9, va_K.moved hW.alike hK, hD9⟩, hS.F ht⟩) hS.2.2 dX7_setSides_55
set_option maxHeartbeats 4000000 in
set_option maxRecDepth 100000 in
theorem c_X7_sideThen_001 (l : Launch) (dC : Nat → ClassId) (dI : Nat → Nat → Nat) (cB cI cJ : ClassId) (sz : Nat) (xSta fL fS fP fT fA fQ fR fN : Nat) (w9 : Int32) (fs : Nat → Int32) (u n : Nat) (hs : fs 0 = nI u) (hu : u ≤ 24) (hn : 2 ≤ n ∧ n ≤ 24) : Met l yX7_sideThen wsX7_sideThen ({ frames := 1, cells := 0, slots := 0, locals := 24 }) (va_Pc [.ref xSta, .int 0, .int 0, .int 1, .int (nI n)] (fun U => U.heap.size = sz ∧ va_P (dC, dI) vwCl [(xSta, .inr (7, [.int (-1), .ref fL, .ref fS, .ref fP, .ref fT, .ref fA, .ref fQ, .ref fR, .int w9, .ref fN])), (fS, .inl (cI, 3, (.inl fs)))] U.heap ∧ va_K (dC, dI) vwCl [(cB, .byte), (cI, .int), (cJ, .long)] U ∧ va_D (fun _ => True) [(xSta, .inr (7, [.int (-1), .ref fL, .ref fS, .ref fP, .ref fT, .ref fA, .ref fQ, .ref fR, .int w9, .ref fN])), (fS, .inl (cI, 3, (.inl fs)))])) (va_Qi (fun (r : Int32) (_ : Unit) => r = nI (u / n * (n - 1))) (fun _ t => va_P (dC, dI) vwCl [(xSta, .inr (7, [.int (-1), .ref fL, .ref fS, .ref fP, .ref fT, .ref fA, .ref fQ, .ref fR, .int w9, .ref fN])), (fS, .inl (cI, 3, (.inl fs)))] t.heap ∧ va_K (dC, dI) vwCl [(cB, .byte), (cI, .int), (cJ, .long)] t ∧ va_D (va_A [(xSta, .inr (7, [.int (-1), .ref fL, .ref fS, .ref fP, .ref fT, .ref fA, .ref fQ, .ref fR, .int w9, .ref fN])), (fS, .inl (cI, 3, (.inl fs)))] sz) [(xSta, .inr (7, [.int (-1), .ref fL, .ref fS, .ref fP, .ref fT, .ref fA, .ref fQ, .ref fR, .int w9, .ref fN])), (fS, .inl (cI, 3, (.inl fs)))]) (va_A [(xSta, .inr (7, [.int (-1), .ref fL, .ref fS, .ref fP, .ref fT, .ref fA, .ref fQ, .ref fR, .int w9, .ref fN])), (fS, .inl (cI, 3, (.inl fs)))] sz)) 0 0 (va_A [(xSta, .inr (7, [.int (-1), .ref fL, .ref fS, .ref fP, .ref fT, .ref fA, .ref fQ, .ref fR, .int w9, .ref fN])), (fS, .inl (cI, 3, (.inl fs)))] sz) := by
  refine Met.ofW (cc := cX7_sideThen) (maxL := 5) (ret := (some .int)) (by decide) rfl ?_
  intro p e s m args below meth c s₁ B hml hv
  obtain ⟨rfl, hsz, hP, hK, hD0⟩ := hv
  have hx := B.exec
  have hb := B.bytes
  have hr := B.returns
  have hts := atoms_spec (ws := wsX7_sideThen) B.pre
  have hown : s.vm.findClass RX7 = some m.cls := findClass_of_methodNamed B.named
  have hlocks := B.notSynchronized
  have hiX7 : ∀ w ∈ u_ws RX7 TX7 10, w ∈ wsX7_sideThen := by decide +kernel
  subst hsz
  have hD := hD0.self (sz := s.heap.size)
  generalize hAe : va_A [(xSta, .inr (7, [.int (-1), .ref fL, .ref fS, .ref fP, .ref fT, .ref fA, .ref fQ, .ref fR, .int w9, .ref fN])), (fS, .inl (cI, 3, (.inl fs)))] s.heap.size = A at hD ⊢
  have hA : ∀ q : Nat, s.heap.size ≤ q → A q := fun q h => by rw [← hAe]; exact Or.inr h
  have hS : va_S A s.heap s.heap [] := va_S.rf
  have hP : va_P (dC, dI) vwCl [(xSta, .inr (7, [.int (-1), .ref fL, .ref fS, .ref fP, .ref fT, .ref fA, .ref fQ, .ref fR, .int w9, .ref fN])), (fS, .inl (cI, 3, (.inl fs)))] s.heap := hP
  have hl := lv_entry ([.ref xSta, .int 0, .int 0, .int 1, .int (nI n)]) (n := 5) (Nat.le_of_ble_eq_true rfl)
  rw [lg_entry_eq]
  generalize (lg_sl ([.ref xSta, .int 0, .int 0, .int 1, .int (nI n)]) ++ List.replicate (5 - (lg_sl ([.ref xSta, .int 0, .int 0, .int 1, .int (nI n)])).length) Slot.unset).toArray = ls at hl ⊢
  have hl : lv_has ls 5 [(0, .ref xSta), (1, .int 0), (2, .int 0), (3, .int 1), (4, .int (nI n))] := hl
  refine lv_iload_n hx hb dX7_sideThen_0 rfl (lv_at hl 1 rfl) ?_
  refine lv_iload_n hx hb dX7_sideThen_1 rfl (lv_at hl 2 rfl) ?_
  refine lv_icmp_ne (tgt := 20) hx hb dX7_sideThen_2 (by decide) (fun c => absurd (by decide) c) (fun _ => ?_)
  refine lv_aload_n hx hb dX7_sideThen_5 rfl (lv_at hl 0 rfl) ?_
  refine va_get (D := (dC, dI)) (ci := 7) (v := .ref fS) (C := RX7) (T := TX7) (N := 10) hx hb hts hiX7 hown hK hP 0 rfl rfl 2 (by decide) (hts (.fieldLink RX7 19 "ScissorsTable$Stairs" "sides" "[I") (by decide +kernel)) (fun _ h9 => h9) rfl dX7_sideThen_6 ?_
  refine lv_iload_n hx hb dX7_sideThen_9 rfl (lv_at hl 2 rfl) ?_
  refine va_iald hx hb hK hP 1 1 rfl rfl (by show ¬ (_ ∨ _); decide) dX7_sideThen_10 ?_
  refine lv_topi (fun x_1 ex_1 => ?_)
  have ex_1 : x_1 = fs 0 := ex_1
  obtain rfl : x_1 = nI u := ex_1.trans hs
  refine lv_iload hx hb dX7_sideThen_11 (lv_at hl 4 rfl) ?_
  refine lv_idiv hx hb dX7_sideThen_13 (nI_ne0 (by omega) (by omega)) ?_
  refine lv_topi (fun x_2 ex_2 => ?_)
  obtain rfl : x_2 = nI (u / n) := ex_2.trans (pk_div (a := u) (d := n) (by omega) (by omega) (by omega))
  refine lv_iload hx hb dX7_sideThen_14 (lv_at hl 4 rfl) ?_
  refine lv_iconst (v := 1) hx hb dX7_sideThen_16 (by decide) ?_
  refine lv_isub hx hb dX7_sideThen_17 ?_
  refine lv_topi (fun x_3 ex_3 => ?_)
  obtain rfl : x_3 = nI (n - 1) := ex_3.trans (pk_sub (a := n) (b := 1) (by omega))
  refine lv_imul hx hb dX7_sideThen_18 ?_
  refine lv_topi (fun x_4 ex_4 => ?_)
  obtain rfl : x_4 = nI ((u / n) * (n - 1)) := ex_4.trans (pk_mul (u / n) (n - 1))
  have hP9 := hP.sub (ws' := [(xSta, .inr (7, [.int (-1), .ref fL, .ref fS, .ref fP, .ref fT, .ref fA, .ref fQ, .ref fR, .int w9, .ref fN])), (fS, .inl (cI, 3, (.inl fs)))]) [0, 1] rfl
  have hD9 := hD.sub (ws' := [(xSta, .inr (7, [.int (-1), .ref fL, .ref fS, .ref fP, .ref fT, .ref fA, .ref fQ, .ref fR, .int w9, .ref fN])), (fS, .inl (cI, 3, (.inl fs)))]) [0, 1] (by decide) rfl
  refine W.widen (k := 0) (n := 0) (Nat.le_of_ble_eq_true rfl) (Nat.le_of_ble_eq_true rfl) ?_
  exact W.iret (v := (nI ((u / n) * (n - 1)))) hx hb hr (fun t ht hW => ⟨⟨(nI ((u / n) * (n - 1))), (), rfl, rfl, by rw [ht]; exact hP9, va_K.moved hW.alike hK, hD9⟩, hS.F ht⟩) hS.2.2 dX7_sideThen_19
set_option maxHeartbeats 4000000 in
set_option maxRecDepth 100000 in
theorem c_X7_sideThen_101 (l : Launch) (dC : Nat → ClassId) (dI : Nat → Nat → Nat) (cB cI cJ : ClassId) (sz : Nat) (xSta fL fS fP fT fA fQ fR fN : Nat) (w9 : Int32) (fs : Nat → Int32) (u n : Nat) (hs : fs 1 = nI u) (hu : u ≤ 24) (hn : 2 ≤ n ∧ n ≤ 24) : Met l yX7_sideThen wsX7_sideThen ({ frames := 1, cells := 0, slots := 0, locals := 24 }) (va_Pc [.ref xSta, .int 1, .int 0, .int 1, .int (nI n)] (fun U => U.heap.size = sz ∧ va_P (dC, dI) vwCl [(xSta, .inr (7, [.int (-1), .ref fL, .ref fS, .ref fP, .ref fT, .ref fA, .ref fQ, .ref fR, .int w9, .ref fN])), (fS, .inl (cI, 3, (.inl fs)))] U.heap ∧ va_K (dC, dI) vwCl [(cB, .byte), (cI, .int), (cJ, .long)] U ∧ va_D (fun _ => True) [(xSta, .inr (7, [.int (-1), .ref fL, .ref fS, .ref fP, .ref fT, .ref fA, .ref fQ, .ref fR, .int w9, .ref fN])), (fS, .inl (cI, 3, (.inl fs)))])) (va_Qi (fun (r : Int32) (_ : Unit) => r = nI (u / (n - 1) * n)) (fun _ t => va_P (dC, dI) vwCl [(xSta, .inr (7, [.int (-1), .ref fL, .ref fS, .ref fP, .ref fT, .ref fA, .ref fQ, .ref fR, .int w9, .ref fN])), (fS, .inl (cI, 3, (.inl fs)))] t.heap ∧ va_K (dC, dI) vwCl [(cB, .byte), (cI, .int), (cJ, .long)] t ∧ va_D (va_A [(xSta, .inr (7, [.int (-1), .ref fL, .ref fS, .ref fP, .ref fT, .ref fA, .ref fQ, .ref fR, .int w9, .ref fN])), (fS, .inl (cI, 3, (.inl fs)))] sz) [(xSta, .inr (7, [.int (-1), .ref fL, .ref fS, .ref fP, .ref fT, .ref fA, .ref fQ, .ref fR, .int w9, .ref fN])), (fS, .inl (cI, 3, (.inl fs)))]) (va_A [(xSta, .inr (7, [.int (-1), .ref fL, .ref fS, .ref fP, .ref fT, .ref fA, .ref fQ, .ref fR, .int w9, .ref fN])), (fS, .inl (cI, 3, (.inl fs)))] sz)) 0 0 (va_A [(xSta, .inr (7, [.int (-1), .ref fL, .ref fS, .ref fP, .ref fT, .ref fA, .ref fQ, .ref fR, .int w9, .ref fN])), (fS, .inl (cI, 3, (.inl fs)))] sz) := by
  refine Met.ofW (cc := cX7_sideThen) (maxL := 5) (ret := (some .int)) (by decide) rfl ?_
  intro p e s m args below meth c s₁ B hml hv
  obtain ⟨rfl, hsz, hP, hK, hD0⟩ := hv
  have hx := B.exec
  have hb := B.bytes
  have hr := B.returns
  have hts := atoms_spec (ws := wsX7_sideThen) B.pre
  have hown : s.vm.findClass RX7 = some m.cls := findClass_of_methodNamed B.named
  have hlocks := B.notSynchronized
  have hiX7 : ∀ w ∈ u_ws RX7 TX7 10, w ∈ wsX7_sideThen := by decide +kernel
  subst hsz
  have hD := hD0.self (sz := s.heap.size)
  generalize hAe : va_A [(xSta, .inr (7, [.int (-1), .ref fL, .ref fS, .ref fP, .ref fT, .ref fA, .ref fQ, .ref fR, .int w9, .ref fN])), (fS, .inl (cI, 3, (.inl fs)))] s.heap.size = A at hD ⊢
  have hA : ∀ q : Nat, s.heap.size ≤ q → A q := fun q h => by rw [← hAe]; exact Or.inr h
  have hS : va_S A s.heap s.heap [] := va_S.rf
  have hP : va_P (dC, dI) vwCl [(xSta, .inr (7, [.int (-1), .ref fL, .ref fS, .ref fP, .ref fT, .ref fA, .ref fQ, .ref fR, .int w9, .ref fN])), (fS, .inl (cI, 3, (.inl fs)))] s.heap := hP
  have hl := lv_entry ([.ref xSta, .int 1, .int 0, .int 1, .int (nI n)]) (n := 5) (Nat.le_of_ble_eq_true rfl)
  rw [lg_entry_eq]
  generalize (lg_sl ([.ref xSta, .int 1, .int 0, .int 1, .int (nI n)]) ++ List.replicate (5 - (lg_sl ([.ref xSta, .int 1, .int 0, .int 1, .int (nI n)])).length) Slot.unset).toArray = ls at hl ⊢
  have hl : lv_has ls 5 [(0, .ref xSta), (1, .int 1), (2, .int 0), (3, .int 1), (4, .int (nI n))] := hl
  refine lv_iload_n hx hb dX7_sideThen_0 rfl (lv_at hl 1 rfl) ?_
  refine lv_iload_n hx hb dX7_sideThen_1 rfl (lv_at hl 2 rfl) ?_
  refine lv_icmp_ne (tgt := 20) hx hb dX7_sideThen_2 (by decide) (fun _ => ?_) (fun c => absurd c (by decide))
  refine lv_iload_n hx hb dX7_sideThen_20 rfl (lv_at hl 1 rfl) ?_
  refine lv_iload_n hx hb dX7_sideThen_21 rfl (lv_at hl 3 rfl) ?_
  refine lv_icmp_ne (tgt := 42) hx hb dX7_sideThen_22 (by decide) (fun c => absurd (by decide) c) (fun _ => ?_)
  refine lv_aload_n hx hb dX7_sideThen_25 rfl (lv_at hl 0 rfl) ?_
  refine va_get (D := (dC, dI)) (ci := 7) (v := .ref fS) (C := RX7) (T := TX7) (N := 10) hx hb hts hiX7 hown hK hP 0 rfl rfl 2 (by decide) (hts (.fieldLink RX7 19 "ScissorsTable$Stairs" "sides" "[I") (by decide +kernel)) (fun _ h9 => h9) rfl dX7_sideThen_26 ?_
  refine lv_iload_n hx hb dX7_sideThen_29 rfl (lv_at hl 3 rfl) ?_
  refine va_iald hx hb hK hP 1 1 rfl rfl (by show ¬ (_ ∨ _); decide) dX7_sideThen_30 ?_
  refine lv_topi (fun x_1 ex_1 => ?_)
  have ex_1 : x_1 = fs 1 := ex_1
  obtain rfl : x_1 = nI u := ex_1.trans hs
  refine lv_iload hx hb dX7_sideThen_31 (lv_at hl 4 rfl) ?_
  refine lv_iconst (v := 1) hx hb dX7_sideThen_33 (by decide) ?_
  refine lv_isub hx hb dX7_sideThen_34 ?_
  refine lv_topi (fun x_2 ex_2 => ?_)
  obtain rfl : x_2 = nI (n - 1) := ex_2.trans (pk_sub (a := n) (b := 1) (by omega))
  refine lv_idiv hx hb dX7_sideThen_35 (nI_ne0 (by omega) (by omega)) ?_
  refine lv_topi (fun x_3 ex_3 => ?_)
  obtain rfl : x_3 = nI (u / (n - 1)) := ex_3.trans (pk_div (a := u) (d := n - 1) (by omega) (by omega) (by omega))
  refine lv_iload hx hb dX7_sideThen_36 (lv_at hl 4 rfl) ?_
  refine lv_imul hx hb dX7_sideThen_38 ?_
  refine lv_topi (fun x_4 ex_4 => ?_)
  obtain rfl : x_4 = nI ((u / (n - 1)) * n) := ex_4.trans (pk_mul (u / (n - 1)) n)
  refine lv_goto (tgt := 48) hx hb dX7_sideThen_39 (by decide) ?_
  have hP9 := hP.sub (ws' := [(xSta, .inr (7, [.int (-1), .ref fL, .ref fS, .ref fP, .ref fT, .ref fA, .ref fQ, .ref fR, .int w9, .ref fN])), (fS, .inl (cI, 3, (.inl fs)))]) [0, 1] rfl
  have hD9 := hD.sub (ws' := [(xSta, .inr (7, [.int (-1), .ref fL, .ref fS, .ref fP, .ref fT, .ref fA, .ref fQ, .ref fR, .int w9, .ref fN])), (fS, .inl (cI, 3, (.inl fs)))]) [0, 1] (by decide) rfl
  refine W.widen (k := 0) (n := 0) (Nat.le_of_ble_eq_true rfl) (Nat.le_of_ble_eq_true rfl) ?_
  exact W.iret (v := (nI ((u / (n - 1)) * n))) hx hb hr (fun t ht hW => ⟨⟨(nI ((u / (n - 1)) * n)), (), rfl, rfl, by rw [ht]; exact hP9, va_K.moved hW.alike hK, hD9⟩, hS.F ht⟩) hS.2.2 dX7_sideThen_48
set_option maxHeartbeats 4000000 in
set_option maxRecDepth 100000 in
theorem c_X7_sideThen_002 (l : Launch) (dC : Nat → ClassId) (dI : Nat → Nat → Nat) (cB cI cJ : ClassId) (sz : Nat) (xSta fL fS fP fT fA fQ fR fN : Nat) (w9 : Int32) (fs : Nat → Int32) (u n : Nat) (hs : fs 0 = nI u) (hu : u ≤ 24) (hn : 2 ≤ n ∧ n ≤ 24) : Met l yX7_sideThen wsX7_sideThen ({ frames := 1, cells := 0, slots := 0, locals := 24 }) (va_Pc [.ref xSta, .int 0, .int 0, .int 2, .int (nI n)] (fun U => U.heap.size = sz ∧ va_P (dC, dI) vwCl [(xSta, .inr (7, [.int (-1), .ref fL, .ref fS, .ref fP, .ref fT, .ref fA, .ref fQ, .ref fR, .int w9, .ref fN])), (fS, .inl (cI, 3, (.inl fs)))] U.heap ∧ va_K (dC, dI) vwCl [(cB, .byte), (cI, .int), (cJ, .long)] U ∧ va_D (fun _ => True) [(xSta, .inr (7, [.int (-1), .ref fL, .ref fS, .ref fP, .ref fT, .ref fA, .ref fQ, .ref fR, .int w9, .ref fN])), (fS, .inl (cI, 3, (.inl fs)))])) (va_Qi (fun (r : Int32) (_ : Unit) => r = nI (u / n * (n - 1))) (fun _ t => va_P (dC, dI) vwCl [(xSta, .inr (7, [.int (-1), .ref fL, .ref fS, .ref fP, .ref fT, .ref fA, .ref fQ, .ref fR, .int w9, .ref fN])), (fS, .inl (cI, 3, (.inl fs)))] t.heap ∧ va_K (dC, dI) vwCl [(cB, .byte), (cI, .int), (cJ, .long)] t ∧ va_D (va_A [(xSta, .inr (7, [.int (-1), .ref fL, .ref fS, .ref fP, .ref fT, .ref fA, .ref fQ, .ref fR, .int w9, .ref fN])), (fS, .inl (cI, 3, (.inl fs)))] sz) [(xSta, .inr (7, [.int (-1), .ref fL, .ref fS, .ref fP, .ref fT, .ref fA, .ref fQ, .ref fR, .int w9, .ref fN])), (fS, .inl (cI, 3, (.inl fs)))]) (va_A [(xSta, .inr (7, [.int (-1), .ref fL, .ref fS, .ref fP, .ref fT, .ref fA, .ref fQ, .ref fR, .int w9, .ref fN])), (fS, .inl (cI, 3, (.inl fs)))] sz)) 0 0 (va_A [(xSta, .inr (7, [.int (-1), .ref fL, .ref fS, .ref fP, .ref fT, .ref fA, .ref fQ, .ref fR, .int w9, .ref fN])), (fS, .inl (cI, 3, (.inl fs)))] sz) := by
  refine Met.ofW (cc := cX7_sideThen) (maxL := 5) (ret := (some .int)) (by decide) rfl ?_
  intro p e s m args below meth c s₁ B hml hv
  obtain ⟨rfl, hsz, hP, hK, hD0⟩ := hv
  have hx := B.exec
  have hb := B.bytes
  have hr := B.returns
  have hts := atoms_spec (ws := wsX7_sideThen) B.pre
  have hown : s.vm.findClass RX7 = some m.cls := findClass_of_methodNamed B.named
  have hlocks := B.notSynchronized
  have hiX7 : ∀ w ∈ u_ws RX7 TX7 10, w ∈ wsX7_sideThen := by decide +kernel
  subst hsz
  have hD := hD0.self (sz := s.heap.size)
  generalize hAe : va_A [(xSta, .inr (7, [.int (-1), .ref fL, .ref fS, .ref fP, .ref fT, .ref fA, .ref fQ, .ref fR, .int w9, .ref fN])), (fS, .inl (cI, 3, (.inl fs)))] s.heap.size = A at hD ⊢
  have hA : ∀ q : Nat, s.heap.size ≤ q → A q := fun q h => by rw [← hAe]; exact Or.inr h
  have hS : va_S A s.heap s.heap [] := va_S.rf
  have hP : va_P (dC, dI) vwCl [(xSta, .inr (7, [.int (-1), .ref fL, .ref fS, .ref fP, .ref fT, .ref fA, .ref fQ, .ref fR, .int w9, .ref fN])), (fS, .inl (cI, 3, (.inl fs)))] s.heap := hP
  have hl := lv_entry ([.ref xSta, .int 0, .int 0, .int 2, .int (nI n)]) (n := 5) (Nat.le_of_ble_eq_true rfl)
  rw [lg_entry_eq]
  generalize (lg_sl ([.ref xSta, .int 0, .int 0, .int 2, .int (nI n)]) ++ List.replicate (5 - (lg_sl ([.ref xSta, .int 0, .int 0, .int 2, .int (nI n)])).length) Slot.unset).toArray = ls at hl ⊢
  have hl : lv_has ls 5 [(0, .ref xSta), (1, .int 0), (2, .int 0), (3, .int 2), (4, .int (nI n))] := hl
  refine lv_iload_n hx hb dX7_sideThen_0 rfl (lv_at hl 1 rfl) ?_
  refine lv_iload_n hx hb dX7_sideThen_1 rfl (lv_at hl 2 rfl) ?_
  refine lv_icmp_ne (tgt := 20) hx hb dX7_sideThen_2 (by decide) (fun c => absurd (by decide) c) (fun _ => ?_)
  refine lv_aload_n hx hb dX7_sideThen_5 rfl (lv_at hl 0 rfl) ?_
  refine va_get (D := (dC, dI)) (ci := 7) (v := .ref fS) (C := RX7) (T := TX7) (N := 10) hx hb hts hiX7 hown hK hP 0 rfl rfl 2 (by decide) (hts (.fieldLink RX7 19 "ScissorsTable$Stairs" "sides" "[I") (by decide +kernel)) (fun _ h9 => h9) rfl dX7_sideThen_6 ?_
  refine lv_iload_n hx hb dX7_sideThen_9 rfl (lv_at hl 2 rfl) ?_
  refine va_iald hx hb hK hP 1 1 rfl rfl (by show ¬ (_ ∨ _); decide) dX7_sideThen_10 ?_
  refine lv_topi (fun x_1 ex_1 => ?_)
  have ex_1 : x_1 = fs 0 := ex_1
  obtain rfl : x_1 = nI u := ex_1.trans hs
  refine lv_iload hx hb dX7_sideThen_11 (lv_at hl 4 rfl) ?_
  refine lv_idiv hx hb dX7_sideThen_13 (nI_ne0 (by omega) (by omega)) ?_
  refine lv_topi (fun x_2 ex_2 => ?_)
  obtain rfl : x_2 = nI (u / n) := ex_2.trans (pk_div (a := u) (d := n) (by omega) (by omega) (by omega))
  refine lv_iload hx hb dX7_sideThen_14 (lv_at hl 4 rfl) ?_
  refine lv_iconst (v := 1) hx hb dX7_sideThen_16 (by decide) ?_
  refine lv_isub hx hb dX7_sideThen_17 ?_
  refine lv_topi (fun x_3 ex_3 => ?_)
  obtain rfl : x_3 = nI (n - 1) := ex_3.trans (pk_sub (a := n) (b := 1) (by omega))
  refine lv_imul hx hb dX7_sideThen_18 ?_
  refine lv_topi (fun x_4 ex_4 => ?_)
  obtain rfl : x_4 = nI ((u / n) * (n - 1)) := ex_4.trans (pk_mul (u / n) (n - 1))
  have hP9 := hP.sub (ws' := [(xSta, .inr (7, [.int (-1), .ref fL, .ref fS, .ref fP, .ref fT, .ref fA, .ref fQ, .ref fR, .int w9, .ref fN])), (fS, .inl (cI, 3, (.inl fs)))]) [0, 1] rfl
  have hD9 := hD.sub (ws' := [(xSta, .inr (7, [.int (-1), .ref fL, .ref fS, .ref fP, .ref fT, .ref fA, .ref fQ, .ref fR, .int w9, .ref fN])), (fS, .inl (cI, 3, (.inl fs)))]) [0, 1] (by decide) rfl
  refine W.widen (k := 0) (n := 0) (Nat.le_of_ble_eq_true rfl) (Nat.le_of_ble_eq_true rfl) ?_
  exact W.iret (v := (nI ((u / n) * (n - 1)))) hx hb hr (fun t ht hW => ⟨⟨(nI ((u / n) * (n - 1))), (), rfl, rfl, by rw [ht]; exact hP9, va_K.moved hW.alike hK, hD9⟩, hS.F ht⟩) hS.2.2 dX7_sideThen_19
set_option maxHeartbeats 4000000 in
set_option maxRecDepth 100000 in
theorem c_X7_sideThen_102 (l : Launch) (dC : Nat → ClassId) (dI : Nat → Nat → Nat) (cB cI cJ : ClassId) (sz : Nat) (xSta fL fS fP fT fA fQ fR fN : Nat) (w9 : Int32) (fs : Nat → Int32) (u n : Nat) (hs : fs 1 = nI u) (hu : u ≤ 24) (hn : 2 ≤ n ∧ n ≤ 24) : Met l yX7_sideThen wsX7_sideThen ({ frames := 1, cells := 0, slots := 0, locals := 24 }) (va_Pc [.ref xSta, .int 1, .int 0, .int 2, .int (nI n)] (fun U => U.heap.size = sz ∧ va_P (dC, dI) vwCl [(xSta, .inr (7, [.int (-1), .ref fL, .ref fS, .ref fP, .ref fT, .ref fA, .ref fQ, .ref fR, .int w9, .ref fN])), (fS, .inl (cI, 3, (.inl fs)))] U.heap ∧ va_K (dC, dI) vwCl [(cB, .byte), (cI, .int), (cJ, .long)] U ∧ va_D (fun _ => True) [(xSta, .inr (7, [.int (-1), .ref fL, .ref fS, .ref fP, .ref fT, .ref fA, .ref fQ, .ref fR, .int w9, .ref fN])), (fS, .inl (cI, 3, (.inl fs)))])) (va_Qi (fun (r : Int32) (_ : Unit) => r = nI (u)) (fun _ t => va_P (dC, dI) vwCl [(xSta, .inr (7, [.int (-1), .ref fL, .ref fS, .ref fP, .ref fT, .ref fA, .ref fQ, .ref fR, .int w9, .ref fN])), (fS, .inl (cI, 3, (.inl fs)))] t.heap ∧ va_K (dC, dI) vwCl [(cB, .byte), (cI, .int), (cJ, .long)] t ∧ va_D (va_A [(xSta, .inr (7, [.int (-1), .ref fL, .ref fS, .ref fP, .ref fT, .ref fA, .ref fQ, .ref fR, .int w9, .ref fN])), (fS, .inl (cI, 3, (.inl fs)))] sz) [(xSta, .inr (7, [.int (-1), .ref fL, .ref fS, .ref fP, .ref fT, .ref fA, .ref fQ, .ref fR, .int w9, .ref fN])), (fS, .inl (cI, 3, (.inl fs)))]) (va_A [(xSta, .inr (7, [.int (-1), .ref fL, .ref fS, .ref fP, .ref fT, .ref fA, .ref fQ, .ref fR, .int w9, .ref fN])), (fS, .inl (cI, 3, (.inl fs)))] sz)) 0 0 (va_A [(xSta, .inr (7, [.int (-1), .ref fL, .ref fS, .ref fP, .ref fT, .ref fA, .ref fQ, .ref fR, .int w9, .ref fN])), (fS, .inl (cI, 3, (.inl fs)))] sz) := by
  refine Met.ofW (cc := cX7_sideThen) (maxL := 5) (ret := (some .int)) (by decide) rfl ?_
  intro p e s m args below meth c s₁ B hml hv
  obtain ⟨rfl, hsz, hP, hK, hD0⟩ := hv
  have hx := B.exec
  have hb := B.bytes
  have hr := B.returns
  have hts := atoms_spec (ws := wsX7_sideThen) B.pre
  have hown : s.vm.findClass RX7 = some m.cls := findClass_of_methodNamed B.named
  have hlocks := B.notSynchronized
  have hiX7 : ∀ w ∈ u_ws RX7 TX7 10, w ∈ wsX7_sideThen := by decide +kernel
  subst hsz
  have hD := hD0.self (sz := s.heap.size)
  generalize hAe : va_A [(xSta, .inr (7, [.int (-1), .ref fL, .ref fS, .ref fP, .ref fT, .ref fA, .ref fQ, .ref fR, .int w9, .ref fN])), (fS, .inl (cI, 3, (.inl fs)))] s.heap.size = A at hD ⊢
  have hA : ∀ q : Nat, s.heap.size ≤ q → A q := fun q h => by rw [← hAe]; exact Or.inr h
  have hS : va_S A s.heap s.heap [] := va_S.rf
  have hP : va_P (dC, dI) vwCl [(xSta, .inr (7, [.int (-1), .ref fL, .ref fS, .ref fP, .ref fT, .ref fA, .ref fQ, .ref fR, .int w9, .ref fN])), (fS, .inl (cI, 3, (.inl fs)))] s.heap := hP
  have hl := lv_entry ([.ref xSta, .int 1, .int 0, .int 2, .int (nI n)]) (n := 5) (Nat.le_of_ble_eq_true rfl)
  rw [lg_entry_eq]
  generalize (lg_sl ([.ref xSta, .int 1, .int 0, .int 2, .int (nI n)]) ++ List.replicate (5 - (lg_sl ([.ref xSta, .int 1, .int 0, .int 2, .int (nI n)])).length) Slot.unset).toArray = ls at hl ⊢
  have hl : lv_has ls 5 [(0, .ref xSta), (1, .int 1), (2, .int 0), (3, .int 2), (4, .int (nI n))] := hl
  refine lv_iload_n hx hb dX7_sideThen_0 rfl (lv_at hl 1 rfl) ?_
  refine lv_iload_n hx hb dX7_sideThen_1 rfl (lv_at hl 2 rfl) ?_
  refine lv_icmp_ne (tgt := 20) hx hb dX7_sideThen_2 (by decide) (fun _ => ?_) (fun c => absurd c (by decide))
  refine lv_iload_n hx hb dX7_sideThen_20 rfl (lv_at hl 1 rfl) ?_
  refine lv_iload_n hx hb dX7_sideThen_21 rfl (lv_at hl 3 rfl) ?_
  refine lv_icmp_ne (tgt := 42) hx hb dX7_sideThen_22 (by decide) (fun _ => ?_) (fun c => absurd c (by decide))
  refine lv_aload_n hx hb dX7_sideThen_42 rfl (lv_at hl 0 rfl) ?_
  refine va_get (D := (dC, dI)) (ci := 7) (v := .ref fS) (C := RX7) (T := TX7) (N := 10) hx hb hts hiX7 hown hK hP 0 rfl rfl 2 (by decide) (hts (.fieldLink RX7 19 "ScissorsTable$Stairs" "sides" "[I") (by decide +kernel)) (fun _ h9 => h9) rfl dX7_sideThen_43 ?_
  refine lv_iload_n hx hb dX7_sideThen_46 rfl (lv_at hl 1 rfl) ?_
  refine va_iald hx hb hK hP 1 1 rfl rfl (by show ¬ (_ ∨ _); decide) dX7_sideThen_47 ?_
  refine lv_topi (fun x_1 ex_1 => ?_)
  have ex_1 : x_1 = fs 1 := ex_1
  obtain rfl : x_1 = nI u := ex_1.trans hs
  have hP9 := hP.sub (ws' := [(xSta, .inr (7, [.int (-1), .ref fL, .ref fS, .ref fP, .ref fT, .ref fA, .ref fQ, .ref fR, .int w9, .ref fN])), (fS, .inl (cI, 3, (.inl fs)))]) [0, 1] rfl
  have hD9 := hD.sub (ws' := [(xSta, .inr (7, [.int (-1), .ref fL, .ref fS, .ref fP, .ref fT, .ref fA, .ref fQ, .ref fR, .int w9, .ref fN])), (fS, .inl (cI, 3, (.inl fs)))]) [0, 1] (by decide) rfl
  refine W.widen (k := 0) (n := 0) (Nat.le_of_ble_eq_true rfl) (Nat.le_of_ble_eq_true rfl) ?_
  exact W.iret (v := (nI u)) hx hb hr (fun t ht hW => ⟨⟨(nI u), (), rfl, rfl, by rw [ht]; exact hP9, va_K.moved hW.alike hK, hD9⟩, hS.F ht⟩) hS.2.2 dX7_sideThen_48
set_option maxHeartbeats 4000000 in
set_option maxRecDepth 100000 in
theorem c_X7_sideThen_010 (l : Launch) (dC : Nat → ClassId) (dI : Nat → Nat → Nat) (cB cI cJ : ClassId) (sz : Nat) (xSta fL fS fP fT fA fQ fR fN : Nat) (w9 : Int32) (fs : Nat → Int32) (u n : Nat) (hs : fs 0 = nI u) (hu : u ≤ 24) (hn : 2 ≤ n ∧ n ≤ 24) : Met l yX7_sideThen wsX7_sideThen ({ frames := 1, cells := 0, slots := 0, locals := 24 }) (va_Pc [.ref xSta, .int 0, .int 1, .int 0, .int (nI n)] (fun U => U.heap.size = sz ∧ va_P (dC, dI) vwCl [(xSta, .inr (7, [.int (-1), .ref fL, .ref fS, .ref fP, .ref fT, .ref fA, .ref fQ, .ref fR, .int w9, .ref fN])), (fS, .inl (cI, 3, (.inl fs)))] U.heap ∧ va_K (dC, dI) vwCl [(cB, .byte), (cI, .int), (cJ, .long)] U ∧ va_D (fun _ => True) [(xSta, .inr (7, [.int (-1), .ref fL, .ref fS, .ref fP, .ref fT, .ref fA, .ref fQ, .ref fR, .int w9, .ref fN])), (fS, .inl (cI, 3, (.inl fs)))])) (va_Qi (fun (r : Int32) (_ : Unit) => r = nI (u / (n - 1) * n)) (fun _ t => va_P (dC, dI) vwCl [(xSta, .inr (7, [.int (-1), .ref fL, .ref fS, .ref fP, .ref fT, .ref fA, .ref fQ, .ref fR, .int w9, .ref fN])), (fS, .inl (cI, 3, (.inl fs)))] t.heap ∧ va_K (dC, dI) vwCl [(cB, .byte), (cI, .int), (cJ, .long)] t ∧ va_D (va_A [(xSta, .inr (7, [.int (-1), .ref fL, .ref fS, .ref fP, .ref fT, .ref fA, .ref fQ, .ref fR, .int w9, .ref fN])), (fS, .inl (cI, 3, (.inl fs)))] sz) [(xSta, .inr (7, [.int (-1), .ref fL, .ref fS, .ref fP, .ref fT, .ref fA, .ref fQ, .ref fR, .int w9, .ref fN])), (fS, .inl (cI, 3, (.inl fs)))]) (va_A [(xSta, .inr (7, [.int (-1), .ref fL, .ref fS, .ref fP, .ref fT, .ref fA, .ref fQ, .ref fR, .int w9, .ref fN])), (fS, .inl (cI, 3, (.inl fs)))] sz)) 0 0 (va_A [(xSta, .inr (7, [.int (-1), .ref fL, .ref fS, .ref fP, .ref fT, .ref fA, .ref fQ, .ref fR, .int w9, .ref fN])), (fS, .inl (cI, 3, (.inl fs)))] sz) := by
  refine Met.ofW (cc := cX7_sideThen) (maxL := 5) (ret := (some .int)) (by decide) rfl ?_
  intro p e s m args below meth c s₁ B hml hv
  obtain ⟨rfl, hsz, hP, hK, hD0⟩ := hv
  have hx := B.exec
  have hb := B.bytes
  have hr := B.returns
  have hts := atoms_spec (ws := wsX7_sideThen) B.pre
  have hown : s.vm.findClass RX7 = some m.cls := findClass_of_methodNamed B.named
  have hlocks := B.notSynchronized
  have hiX7 : ∀ w ∈ u_ws RX7 TX7 10, w ∈ wsX7_sideThen := by decide +kernel
  subst hsz
  have hD := hD0.self (sz := s.heap.size)
  generalize hAe : va_A [(xSta, .inr (7, [.int (-1), .ref fL, .ref fS, .ref fP, .ref fT, .ref fA, .ref fQ, .ref fR, .int w9, .ref fN])), (fS, .inl (cI, 3, (.inl fs)))] s.heap.size = A at hD ⊢
  have hA : ∀ q : Nat, s.heap.size ≤ q → A q := fun q h => by rw [← hAe]; exact Or.inr h
  have hS : va_S A s.heap s.heap [] := va_S.rf
  have hP : va_P (dC, dI) vwCl [(xSta, .inr (7, [.int (-1), .ref fL, .ref fS, .ref fP, .ref fT, .ref fA, .ref fQ, .ref fR, .int w9, .ref fN])), (fS, .inl (cI, 3, (.inl fs)))] s.heap := hP
  have hl := lv_entry ([.ref xSta, .int 0, .int 1, .int 0, .int (nI n)]) (n := 5) (Nat.le_of_ble_eq_true rfl)
  rw [lg_entry_eq]
  generalize (lg_sl ([.ref xSta, .int 0, .int 1, .int 0, .int (nI n)]) ++ List.replicate (5 - (lg_sl ([.ref xSta, .int 0, .int 1, .int 0, .int (nI n)])).length) Slot.unset).toArray = ls at hl ⊢
  have hl : lv_has ls 5 [(0, .ref xSta), (1, .int 0), (2, .int 1), (3, .int 0), (4, .int (nI n))] := hl
  refine lv_iload_n hx hb dX7_sideThen_0 rfl (lv_at hl 1 rfl) ?_
  refine lv_iload_n hx hb dX7_sideThen_1 rfl (lv_at hl 2 rfl) ?_
  refine lv_icmp_ne (tgt := 20) hx hb dX7_sideThen_2 (by decide) (fun _ => ?_) (fun c => absurd c (by decide))
  refine lv_iload_n hx hb dX7_sideThen_20 rfl (lv_at hl 1 rfl) ?_
  refine lv_iload_n hx hb dX7_sideThen_21 rfl (lv_at hl 3 rfl) ?_
  refine lv_icmp_ne (tgt := 42) hx hb dX7_sideThen_22 (by decide) (fun c => absurd (by decide) c) (fun _ => ?_)
  refine lv_aload_n hx hb dX7_sideThen_25 rfl (lv_at hl 0 rfl) ?_
  refine va_get (D := (dC, dI)) (ci := 7) (v := .ref fS) (C := RX7) (T := TX7) (N := 10) hx hb hts hiX7 hown hK hP 0 rfl rfl 2 (by decide) (hts (.fieldLink RX7 19 "ScissorsTable$Stairs" "sides" "[I") (by decide +kernel)) (fun _ h9 => h9) rfl dX7_sideThen_26 ?_
  refine lv_iload_n hx hb dX7_sideThen_29 rfl (lv_at hl 3 rfl) ?_
  refine va_iald hx hb hK hP 1 1 rfl rfl (by show ¬ (_ ∨ _); decide) dX7_sideThen_30 ?_
  refine lv_topi (fun x_1 ex_1 => ?_)
  have ex_1 : x_1 = fs 0 := ex_1
  obtain rfl : x_1 = nI u := ex_1.trans hs
  refine lv_iload hx hb dX7_sideThen_31 (lv_at hl 4 rfl) ?_
  refine lv_iconst (v := 1) hx hb dX7_sideThen_33 (by decide) ?_
  refine lv_isub hx hb dX7_sideThen_34 ?_
  refine lv_topi (fun x_2 ex_2 => ?_)
  obtain rfl : x_2 = nI (n - 1) := ex_2.trans (pk_sub (a := n) (b := 1) (by omega))
  refine lv_idiv hx hb dX7_sideThen_35 (nI_ne0 (by omega) (by omega)) ?_
  refine lv_topi (fun x_3 ex_3 => ?_)
  obtain rfl : x_3 = nI (u / (n - 1)) := ex_3.trans (pk_div (a := u) (d := n - 1) (by omega) (by omega) (by omega))
  refine lv_iload hx hb dX7_sideThen_36 (lv_at hl 4 rfl) ?_
  refine lv_imul hx hb dX7_sideThen_38 ?_
  refine lv_topi (fun x_4 ex_4 => ?_)
  obtain rfl : x_4 = nI ((u / (n - 1)) * n) := ex_4.trans (pk_mul (u / (n - 1)) n)
  refine lv_goto (tgt := 48) hx hb dX7_sideThen_39 (by decide) ?_
  have hP9 := hP.sub (ws' := [(xSta, .inr (7, [.int (-1), .ref fL, .ref fS, .ref fP, .ref fT, .ref fA, .ref fQ, .ref fR, .int w9, .ref fN])), (fS, .inl (cI, 3, (.inl fs)))]) [0, 1] rfl
  have hD9 := hD.sub (ws' := [(xSta, .inr (7, [.int (-1), .ref fL, .ref fS, .ref fP, .ref fT, .ref fA, .ref fQ, .ref fR, .int w9, .ref fN])), (fS, .inl (cI, 3, (.inl fs)))]) [0, 1] (by decide) rfl
  refine W.widen (k := 0) (n := 0) (Nat.le_of_ble_eq_true rfl) (Nat.le_of_ble_eq_true rfl) ?_
  exact W.iret (v := (nI ((u / (n - 1)) * n))) hx hb hr (fun t ht hW => ⟨⟨(nI ((u / (n - 1)) * n)), (), rfl, rfl, by rw [ht]; exact hP9, va_K.moved hW.alike hK, hD9⟩, hS.F ht⟩) hS.2.2 dX7_sideThen_48
set_option maxHeartbeats 4000000 in
set_option maxRecDepth 100000 in
theorem c_X7_sideThen_110 (l : Launch) (dC : Nat → ClassId) (dI : Nat → Nat → Nat) (cB cI cJ : ClassId) (sz : Nat) (xSta fL fS fP fT fA fQ fR fN : Nat) (w9 : Int32) (fs : Nat → Int32) (u n : Nat) (hs : fs 1 = nI u) (hu : u ≤ 24) (hn : 2 ≤ n ∧ n ≤ 24) : Met l yX7_sideThen wsX7_sideThen ({ frames := 1, cells := 0, slots := 0, locals := 24 }) (va_Pc [.ref xSta, .int 1, .int 1, .int 0, .int (nI n)] (fun U => U.heap.size = sz ∧ va_P (dC, dI) vwCl [(xSta, .inr (7, [.int (-1), .ref fL, .ref fS, .ref fP, .ref fT, .ref fA, .ref fQ, .ref fR, .int w9, .ref fN])), (fS, .inl (cI, 3, (.inl fs)))] U.heap ∧ va_K (dC, dI) vwCl [(cB, .byte), (cI, .int), (cJ, .long)] U ∧ va_D (fun _ => True) [(xSta, .inr (7, [.int (-1), .ref fL, .ref fS, .ref fP, .ref fT, .ref fA, .ref fQ, .ref fR, .int w9, .ref fN])), (fS, .inl (cI, 3, (.inl fs)))])) (va_Qi (fun (r : Int32) (_ : Unit) => r = nI (u / n * (n - 1))) (fun _ t => va_P (dC, dI) vwCl [(xSta, .inr (7, [.int (-1), .ref fL, .ref fS, .ref fP, .ref fT, .ref fA, .ref fQ, .ref fR, .int w9, .ref fN])), (fS, .inl (cI, 3, (.inl fs)))] t.heap ∧ va_K (dC, dI) vwCl [(cB, .byte), (cI, .int), (cJ, .long)] t ∧ va_D (va_A [(xSta, .inr (7, [.int (-1), .ref fL, .ref fS, .ref fP, .ref fT, .ref fA, .ref fQ, .ref fR, .int w9, .ref fN])), (fS, .inl (cI, 3, (.inl fs)))] sz) [(xSta, .inr (7, [.int (-1), .ref fL, .ref fS, .ref fP, .ref fT, .ref fA, .ref fQ, .ref fR, .int w9, .ref fN])), (fS, .inl (cI, 3, (.inl fs)))]) (va_A [(xSta, .inr (7, [.int (-1), .ref fL, .ref fS, .ref fP, .ref fT, .ref fA, .ref fQ, .ref fR, .int w9, .ref fN])), (fS, .inl (cI, 3, (.inl fs)))] sz)) 0 0 (va_A [(xSta, .inr (7, [.int (-1), .ref fL, .ref fS, .ref fP, .ref fT, .ref fA, .ref fQ, .ref fR, .int w9, .ref fN])), (fS, .inl (cI, 3, (.inl fs)))] sz) := by
  refine Met.ofW (cc := cX7_sideThen) (maxL := 5) (ret := (some .int)) (by decide) rfl ?_
  intro p e s m args below meth c s₁ B hml hv
  obtain ⟨rfl, hsz, hP, hK, hD0⟩ := hv
  have hx := B.exec
  have hb := B.bytes
  have hr := B.returns
  have hts := atoms_spec (ws := wsX7_sideThen) B.pre
  have hown : s.vm.findClass RX7 = some m.cls := findClass_of_methodNamed B.named
  have hlocks := B.notSynchronized
  have hiX7 : ∀ w ∈ u_ws RX7 TX7 10, w ∈ wsX7_sideThen := by decide +kernel
  subst hsz
  have hD := hD0.self (sz := s.heap.size)
  generalize hAe : va_A [(xSta, .inr (7, [.int (-1), .ref fL, .ref fS, .ref fP, .ref fT, .ref fA, .ref fQ, .ref fR, .int w9, .ref fN])), (fS, .inl (cI, 3, (.inl fs)))] s.heap.size = A at hD ⊢
  have hA : ∀ q : Nat, s.heap.size ≤ q → A q := fun q h => by rw [← hAe]; exact Or.inr h
  have hS : va_S A s.heap s.heap [] := va_S.rf
  have hP : va_P (dC, dI) vwCl [(xSta, .inr (7, [.int (-1), .ref fL, .ref fS, .ref fP, .ref fT, .ref fA, .ref fQ, .ref fR, .int w9, .ref fN])), (fS, .inl (cI, 3, (.inl fs)))] s.heap := hP
  have hl := lv_entry ([.ref xSta, .int 1, .int 1, .int 0, .int (nI n)]) (n := 5) (Nat.le_of_ble_eq_true rfl)
  rw [lg_entry_eq]
  generalize (lg_sl ([.ref xSta, .int 1, .int 1, .int 0, .int (nI n)]) ++ List.replicate (5 - (lg_sl ([.ref xSta, .int 1, .int 1, .int 0, .int (nI n)])).length) Slot.unset).toArray = ls at hl ⊢
  have hl : lv_has ls 5 [(0, .ref xSta), (1, .int 1), (2, .int 1), (3, .int 0), (4, .int (nI n))] := hl
  refine lv_iload_n hx hb dX7_sideThen_0 rfl (lv_at hl 1 rfl) ?_
  refine lv_iload_n hx hb dX7_sideThen_1 rfl (lv_at hl 2 rfl) ?_
  refine lv_icmp_ne (tgt := 20) hx hb dX7_sideThen_2 (by decide) (fun c => absurd (by decide) c) (fun _ => ?_)
  refine lv_aload_n hx hb dX7_sideThen_5 rfl (lv_at hl 0 rfl) ?_
  refine va_get (D := (dC, dI)) (ci := 7) (v := .ref fS) (C := RX7) (T := TX7) (N := 10) hx hb hts hiX7 hown hK hP 0 rfl rfl 2 (by decide) (hts (.fieldLink RX7 19 "ScissorsTable$Stairs" "sides" "[I") (by decide +kernel)) (fun _ h9 => h9) rfl dX7_sideThen_6 ?_
  refine lv_iload_n hx hb dX7_sideThen_9 rfl (lv_at hl 2 rfl) ?_
  refine va_iald hx hb hK hP 1 1 rfl rfl (by show ¬ (_ ∨ _); decide) dX7_sideThen_10 ?_
  refine lv_topi (fun x_1 ex_1 => ?_)
  have ex_1 : x_1 = fs 1 := ex_1
  obtain rfl : x_1 = nI u := ex_1.trans hs
  refine lv_iload hx hb dX7_sideThen_11 (lv_at hl 4 rfl) ?_
  refine lv_idiv hx hb dX7_sideThen_13 (nI_ne0 (by omega) (by omega)) ?_
  refine lv_topi (fun x_2 ex_2 => ?_)
  obtain rfl : x_2 = nI (u / n) := ex_2.trans (pk_div (a := u) (d := n) (by omega) (by omega) (by omega))
  refine lv_iload hx hb dX7_sideThen_14 (lv_at hl 4 rfl) ?_
  refine lv_iconst (v := 1) hx hb dX7_sideThen_16 (by decide) ?_
  refine lv_isub hx hb dX7_sideThen_17 ?_
  refine lv_topi (fun x_3 ex_3 => ?_)
  obtain rfl : x_3 = nI (n - 1) := ex_3.trans (pk_sub (a := n) (b := 1) (by omega))
  refine lv_imul hx hb dX7_sideThen_18 ?_
  refine lv_topi (fun x_4 ex_4 => ?_)
  obtain rfl : x_4 = nI ((u / n) * (n - 1)) := ex_4.trans (pk_mul (u / n) (n - 1))
  have hP9 := hP.sub (ws' := [(xSta, .inr (7, [.int (-1), .ref fL, .ref fS, .ref fP, .ref fT, .ref fA, .ref fQ, .ref fR, .int w9, .ref fN])), (fS, .inl (cI, 3, (.inl fs)))]) [0, 1] rfl
  have hD9 := hD.sub (ws' := [(xSta, .inr (7, [.int (-1), .ref fL, .ref fS, .ref fP, .ref fT, .ref fA, .ref fQ, .ref fR, .int w9, .ref fN])), (fS, .inl (cI, 3, (.inl fs)))]) [0, 1] (by decide) rfl
  refine W.widen (k := 0) (n := 0) (Nat.le_of_ble_eq_true rfl) (Nat.le_of_ble_eq_true rfl) ?_
  exact W.iret (v := (nI ((u / n) * (n - 1)))) hx hb hr (fun t ht hW => ⟨⟨(nI ((u / n) * (n - 1))), (), rfl, rfl, by rw [ht]; exact hP9, va_K.moved hW.alike hK, hD9⟩, hS.F ht⟩) hS.2.2 dX7_sideThen_19
set_option maxHeartbeats 4000000 in
set_option maxRecDepth 100000 in
theorem c_X7_sideThen_012 (l : Launch) (dC : Nat → ClassId) (dI : Nat → Nat → Nat) (cB cI cJ : ClassId) (sz : Nat) (xSta fL fS fP fT fA fQ fR fN : Nat) (w9 : Int32) (fs : Nat → Int32) (u n : Nat) (hs : fs 0 = nI u) (hu : u ≤ 24) (hn : 2 ≤ n ∧ n ≤ 24) : Met l yX7_sideThen wsX7_sideThen ({ frames := 1, cells := 0, slots := 0, locals := 24 }) (va_Pc [.ref xSta, .int 0, .int 1, .int 2, .int (nI n)] (fun U => U.heap.size = sz ∧ va_P (dC, dI) vwCl [(xSta, .inr (7, [.int (-1), .ref fL, .ref fS, .ref fP, .ref fT, .ref fA, .ref fQ, .ref fR, .int w9, .ref fN])), (fS, .inl (cI, 3, (.inl fs)))] U.heap ∧ va_K (dC, dI) vwCl [(cB, .byte), (cI, .int), (cJ, .long)] U ∧ va_D (fun _ => True) [(xSta, .inr (7, [.int (-1), .ref fL, .ref fS, .ref fP, .ref fT, .ref fA, .ref fQ, .ref fR, .int w9, .ref fN])), (fS, .inl (cI, 3, (.inl fs)))])) (va_Qi (fun (r : Int32) (_ : Unit) => r = nI (u)) (fun _ t => va_P (dC, dI) vwCl [(xSta, .inr (7, [.int (-1), .ref fL, .ref fS, .ref fP, .ref fT, .ref fA, .ref fQ, .ref fR, .int w9, .ref fN])), (fS, .inl (cI, 3, (.inl fs)))] t.heap ∧ va_K (dC, dI) vwCl [(cB, .byte), (cI, .int), (cJ, .long)] t ∧ va_D (va_A [(xSta, .inr (7, [.int (-1), .ref fL, .ref fS, .ref fP, .ref fT, .ref fA, .ref fQ, .ref fR, .int w9, .ref fN])), (fS, .inl (cI, 3, (.inl fs)))] sz) [(xSta, .inr (7, [.int (-1), .ref fL, .ref fS, .ref fP, .ref fT, .ref fA, .ref fQ, .ref fR, .int w9, .ref fN])), (fS, .inl (cI, 3, (.inl fs)))]) (va_A [(xSta, .inr (7, [.int (-1), .ref fL, .ref fS, .ref fP, .ref fT, .ref fA, .ref fQ, .ref fR, .int w9, .ref fN])), (fS, .inl (cI, 3, (.inl fs)))] sz)) 0 0 (va_A [(xSta, .inr (7, [.int (-1), .ref fL, .ref fS, .ref fP, .ref fT, .ref fA, .ref fQ, .ref fR, .int w9, .ref fN])), (fS, .inl (cI, 3, (.inl fs)))] sz) := by
  refine Met.ofW (cc := cX7_sideThen) (maxL := 5) (ret := (some .int)) (by decide) rfl ?_
  intro p e s m args below meth c s₁ B hml hv
  obtain ⟨rfl, hsz, hP, hK, hD0⟩ := hv
  have hx := B.exec
  have hb := B.bytes
  have hr := B.returns
  have hts := atoms_spec (ws := wsX7_sideThen) B.pre
  have hown : s.vm.findClass RX7 = some m.cls := findClass_of_methodNamed B.named
  have hlocks := B.notSynchronized
  have hiX7 : ∀ w ∈ u_ws RX7 TX7 10, w ∈ wsX7_sideThen := by decide +kernel
  subst hsz
  have hD := hD0.self (sz := s.heap.size)
  generalize hAe : va_A [(xSta, .inr (7, [.int (-1), .ref fL, .ref fS, .ref fP, .ref fT, .ref fA, .ref fQ, .ref fR, .int w9, .ref fN])), (fS, .inl (cI, 3, (.inl fs)))] s.heap.size = A at hD ⊢
  have hA : ∀ q : Nat, s.heap.size ≤ q → A q := fun q h => by rw [← hAe]; exact Or.inr h
  have hS : va_S A s.heap s.heap [] := va_S.rf
  have hP : va_P (dC, dI) vwCl [(xSta, .inr (7, [.int (-1), .ref fL, .ref fS, .ref fP, .ref fT, .ref fA, .ref fQ, .ref fR, .int w9, .ref fN])), (fS, .inl (cI, 3, (.inl fs)))] s.heap := hP
  have hl := lv_entry ([.ref xSta, .int 0, .int 1, .int 2, .int (nI n)]) (n := 5) (Nat.le_of_ble_eq_true rfl)
  rw [lg_entry_eq]
  generalize (lg_sl ([.ref xSta, .int 0, .int 1, .int 2, .int (nI n)]) ++ List.replicate (5 - (lg_sl ([.ref xSta, .int 0, .int 1, .int 2, .int (nI n)])).length) Slot.unset).toArray = ls at hl ⊢
  have hl : lv_has ls 5 [(0, .ref xSta), (1, .int 0), (2, .int 1), (3, .int 2), (4, .int (nI n))] := hl
  refine lv_iload_n hx hb dX7_sideThen_0 rfl (lv_at hl 1 rfl) ?_
  refine lv_iload_n hx hb dX7_sideThen_1 rfl (lv_at hl 2 rfl) ?_
  refine lv_icmp_ne (tgt := 20) hx hb dX7_sideThen_2 (by decide) (fun _ => ?_) (fun c => absurd c (by decide))
  refine lv_iload_n hx hb dX7_sideThen_20 rfl (lv_at hl 1 rfl) ?_
  refine lv_iload_n hx hb dX7_sideThen_21 rfl (lv_at hl 3 rfl) ?_
  refine lv_icmp_ne (tgt := 42) hx hb dX7_sideThen_22 (by decide) (fun _ => ?_) (fun c => absurd c (by decide))
  refine lv_aload_n hx hb dX7_sideThen_42 rfl (lv_at hl 0 rfl) ?_
  refine va_get (D := (dC, dI)) (ci := 7) (v := .ref fS) (C := RX7) (T := TX7) (N := 10) hx hb hts hiX7 hown hK hP 0 rfl rfl 2 (by decide) (hts (.fieldLink RX7 19 "ScissorsTable$Stairs" "sides" "[I") (by decide +kernel)) (fun _ h9 => h9) rfl dX7_sideThen_43 ?_
  refine lv_iload_n hx hb dX7_sideThen_46 rfl (lv_at hl 1 rfl) ?_
  refine va_iald hx hb hK hP 1 1 rfl rfl (by show ¬ (_ ∨ _); decide) dX7_sideThen_47 ?_
  refine lv_topi (fun x_1 ex_1 => ?_)
  have ex_1 : x_1 = fs 0 := ex_1
  obtain rfl : x_1 = nI u := ex_1.trans hs
  have hP9 := hP.sub (ws' := [(xSta, .inr (7, [.int (-1), .ref fL, .ref fS, .ref fP, .ref fT, .ref fA, .ref fQ, .ref fR, .int w9, .ref fN])), (fS, .inl (cI, 3, (.inl fs)))]) [0, 1] rfl
  have hD9 := hD.sub (ws' := [(xSta, .inr (7, [.int (-1), .ref fL, .ref fS, .ref fP, .ref fT, .ref fA, .ref fQ, .ref fR, .int w9, .ref fN])), (fS, .inl (cI, 3, (.inl fs)))]) [0, 1] (by decide) rfl
  refine W.widen (k := 0) (n := 0) (Nat.le_of_ble_eq_true rfl) (Nat.le_of_ble_eq_true rfl) ?_
  exact W.iret (v := (nI u)) hx hb hr (fun t ht hW => ⟨⟨(nI u), (), rfl, rfl, by rw [ht]; exact hP9, va_K.moved hW.alike hK, hD9⟩, hS.F ht⟩) hS.2.2 dX7_sideThen_48
set_option maxHeartbeats 4000000 in
set_option maxRecDepth 100000 in
theorem c_X7_sideThen_112 (l : Launch) (dC : Nat → ClassId) (dI : Nat → Nat → Nat) (cB cI cJ : ClassId) (sz : Nat) (xSta fL fS fP fT fA fQ fR fN : Nat) (w9 : Int32) (fs : Nat → Int32) (u n : Nat) (hs : fs 1 = nI u) (hu : u ≤ 24) (hn : 2 ≤ n ∧ n ≤ 24) : Met l yX7_sideThen wsX7_sideThen ({ frames := 1, cells := 0, slots := 0, locals := 24 }) (va_Pc [.ref xSta, .int 1, .int 1, .int 2, .int (nI n)] (fun U => U.heap.size = sz ∧ va_P (dC, dI) vwCl [(xSta, .inr (7, [.int (-1), .ref fL, .ref fS, .ref fP, .ref fT, .ref fA, .ref fQ, .ref fR, .int w9, .ref fN])), (fS, .inl (cI, 3, (.inl fs)))] U.heap ∧ va_K (dC, dI) vwCl [(cB, .byte), (cI, .int), (cJ, .long)] U ∧ va_D (fun _ => True) [(xSta, .inr (7, [.int (-1), .ref fL, .ref fS, .ref fP, .ref fT, .ref fA, .ref fQ, .ref fR, .int w9, .ref fN])), (fS, .inl (cI, 3, (.inl fs)))])) (va_Qi (fun (r : Int32) (_ : Unit) => r = nI (u / n * (n - 1))) (fun _ t => va_P (dC, dI) vwCl [(xSta, .inr (7, [.int (-1), .ref fL, .ref fS, .ref fP, .ref fT, .ref fA, .ref fQ, .ref fR, .int w9, .ref fN])), (fS, .inl (cI, 3, (.inl fs)))] t.heap ∧ va_K (dC, dI) vwCl [(cB, .byte), (cI, .int), (cJ, .long)] t ∧ va_D (va_A [(xSta, .inr (7, [.int (-1), .ref fL, .ref fS, .ref fP, .ref fT, .ref fA, .ref fQ, .ref fR, .int w9, .ref fN])), (fS, .inl (cI, 3, (.inl fs)))] sz) [(xSta, .inr (7, [.int (-1), .ref fL, .ref fS, .ref fP, .ref fT, .ref fA, .ref fQ, .ref fR, .int w9, .ref fN])), (fS, .inl (cI, 3, (.inl fs)))]) (va_A [(xSta, .inr (7, [.int (-1), .ref fL, .ref fS, .ref fP, .ref fT, .ref fA, .ref fQ, .ref fR, .int w9, .ref fN])), (fS, .inl (cI, 3, (.inl fs)))] sz)) 0 0 (va_A [(xSta, .inr (7, [.int (-1), .ref fL, .ref fS, .ref fP, .ref fT, .ref fA, .ref fQ, .ref fR, .int w9, .ref fN])), (fS, .inl (cI, 3, (.inl fs)))] sz) := by
  refine Met.ofW (cc := cX7_sideThen) (maxL := 5) (ret := (some .int)) (by decide) rfl ?_
  intro p e s m args below meth c s₁ B hml hv
  obtain ⟨rfl, hsz, hP, hK, hD0⟩ := hv
  have hx := B.exec
  have hb := B.bytes
  have hr := B.returns
  have hts := atoms_spec (ws := wsX7_sideThen) B.pre
  have hown : s.vm.findClass RX7 = some m.cls := findClass_of_methodNamed B.named
  have hlocks := B.notSynchronized
  have hiX7 : ∀ w ∈ u_ws RX7 TX7 10, w ∈ wsX7_sideThen := by decide +kernel
  subst hsz
  have hD := hD0.self (sz := s.heap.size)
  generalize hAe : va_A [(xSta, .inr (7, [.int (-1), .ref fL, .ref fS, .ref fP, .ref fT, .ref fA, .ref fQ, .ref fR, .int w9, .ref fN])), (fS, .inl (cI, 3, (.inl fs)))] s.heap.size = A at hD ⊢
  have hA : ∀ q : Nat, s.heap.size ≤ q → A q := fun q h => by rw [← hAe]; exact Or.inr h
  have hS : va_S A s.heap s.heap [] := va_S.rf
  have hP : va_P (dC, dI) vwCl [(xSta, .inr (7, [.int (-1), .ref fL, .ref fS, .ref fP, .ref fT, .ref fA, .ref fQ, .ref fR, .int w9, .ref fN])), (fS, .inl (cI, 3, (.inl fs)))] s.heap := hP
  have hl := lv_entry ([.ref xSta, .int 1, .int 1, .int 2, .int (nI n)]) (n := 5) (Nat.le_of_ble_eq_true rfl)
  rw [lg_entry_eq]
  generalize (lg_sl ([.ref xSta, .int 1, .int 1, .int 2, .int (nI n)]) ++ List.replicate (5 - (lg_sl ([.ref xSta, .int 1, .int 1, .int 2, .int (nI n)])).length) Slot.unset).toArray = ls at hl ⊢
  have hl : lv_has ls 5 [(0, .ref xSta), (1, .int 1), (2, .int 1), (3, .int 2), (4, .int (nI n))] := hl
  refine lv_iload_n hx hb dX7_sideThen_0 rfl (lv_at hl 1 rfl) ?_
  refine lv_iload_n hx hb dX7_sideThen_1 rfl (lv_at hl 2 rfl) ?_
  refine lv_icmp_ne (tgt := 20) hx hb dX7_sideThen_2 (by decide) (fun c => absurd (by decide) c) (fun _ => ?_)
  refine lv_aload_n hx hb dX7_sideThen_5 rfl (lv_at hl 0 rfl) ?_
  refine va_get (D := (dC, dI)) (ci := 7) (v := .ref fS) (C := RX7) (T := TX7) (N := 10) hx hb hts hiX7 hown hK hP 0 rfl rfl 2 (by decide) (hts (.fieldLink RX7 19 "ScissorsTable$Stairs" "sides" "[I") (by decide +kernel)) (fun _ h9 => h9) rfl dX7_sideThen_6 ?_
  refine lv_iload_n hx hb dX7_sideThen_9 rfl (lv_at hl 2 rfl) ?_
  refine va_iald hx hb hK hP 1 1 rfl rfl (by show ¬ (_ ∨ _); decide) dX7_sideThen_10 ?_
  refine lv_topi (fun x_1 ex_1 => ?_)
  have ex_1 : x_1 = fs 1 := ex_1
  obtain rfl : x_1 = nI u := ex_1.trans hs
  refine lv_iload hx hb dX7_sideThen_11 (lv_at hl 4 rfl) ?_
  refine lv_idiv hx hb dX7_sideThen_13 (nI_ne0 (by omega) (by omega)) ?_
  refine lv_topi (fun x_2 ex_2 => ?_)
  obtain rfl : x_2 = nI (u / n) := ex_2.trans (pk_div (a := u) (d := n) (by omega) (by omega) (by omega))
  refine lv_iload hx hb dX7_sideThen_14 (lv_at hl 4 rfl) ?_
  refine lv_iconst (v := 1) hx hb dX7_sideThen_16 (by decide) ?_
  refine lv_isub hx hb dX7_sideThen_17 ?_
  refine lv_topi (fun x_3 ex_3 => ?_)
  obtain rfl : x_3 = nI (n - 1) := ex_3.trans (pk_sub (a := n) (b := 1) (by omega))
  refine lv_imul hx hb dX7_sideThen_18 ?_
  refine lv_topi (fun x_4 ex_4 => ?_)
  obtain rfl : x_4 = nI ((u / n) * (n - 1)) := ex_4.trans (pk_mul (u / n) (n - 1))
  have hP9 := hP.sub (ws' := [(xSta, .inr (7, [.int (-1), .ref fL, .ref fS, .ref fP, .ref fT, .ref fA, .ref fQ, .ref fR, .int w9, .ref fN])), (fS, .inl (cI, 3, (.inl fs)))]) [0, 1] rfl
  have hD9 := hD.sub (ws' := [(xSta, .inr (7, [.int (-1), .ref fL, .ref fS, .ref fP, .ref fT, .ref fA, .ref fQ, .ref fR, .int w9, .ref fN])), (fS, .inl (cI, 3, (.inl fs)))]) [0, 1] (by decide) rfl
  refine W.widen (k := 0) (n := 0) (Nat.le_of_ble_eq_true rfl) (Nat.le_of_ble_eq_true rfl) ?_
  exact W.iret (v := (nI ((u / n) * (n - 1)))) hx hb hr (fun t ht hW => ⟨⟨(nI ((u / n) * (n - 1))), (), rfl, rfl, by rw [ht]; exact hP9, va_K.moved hW.alike hK, hD9⟩, hS.F ht⟩) hS.2.2 dX7_sideThen_19
set_option maxHeartbeats 4000000 in
set_option maxRecDepth 100000 in
theorem c_X7_sideThen_020 (l : Launch) (dC : Nat → ClassId) (dI : Nat → Nat → Nat) (cB cI cJ : ClassId) (sz : Nat) (xSta fL fS fP fT fA fQ fR fN : Nat) (w9 : Int32) (fs : Nat → Int32) (u n : Nat) (hs : fs 0 = nI u) (hu : u ≤ 24) (hn : 2 ≤ n ∧ n ≤ 24) : Met l yX7_sideThen wsX7_sideThen ({ frames := 1, cells := 0, slots := 0, locals := 24 }) (va_Pc [.ref xSta, .int 0, .int 2, .int 0, .int (nI n)] (fun U => U.heap.size = sz ∧ va_P (dC, dI) vwCl [(xSta, .inr (7, [.int (-1), .ref fL, .ref fS, .ref fP, .ref fT, .ref fA, .ref fQ, .ref fR, .int w9, .ref fN])), (fS, .inl (cI, 3, (.inl fs)))] U.heap ∧ va_K (dC, dI) vwCl [(cB, .byte), (cI, .int), (cJ, .long)] U ∧ va_D (fun _ => True) [(xSta, .inr (7, [.int (-1), .ref fL, .ref fS, .ref fP, .ref fT, .ref fA, .ref fQ, .ref fR, .int w9, .ref fN])), (fS, .inl (cI, 3, (.inl fs)))])) (va_Qi (fun (r : Int32) (_ : Unit) => r = nI (u / (n - 1) * n)) (fun _ t => va_P (dC, dI) vwCl [(xSta, .inr (7, [.int (-1), .ref fL, .ref fS, .ref fP, .ref fT, .ref fA, .ref fQ, .ref fR, .int w9, .ref fN])), (fS, .inl (cI, 3, (.inl fs)))] t.heap ∧ va_K (dC, dI) vwCl [(cB, .byte), (cI, .int), (cJ, .long)] t ∧ va_D (va_A [(xSta, .inr (7, [.int (-1), .ref fL, .ref fS, .ref fP, .ref fT, .ref fA, .ref fQ, .ref fR, .int w9, .ref fN])), (fS, .inl (cI, 3, (.inl fs)))] sz) [(xSta, .inr (7, [.int (-1), .ref fL, .ref fS, .ref fP, .ref fT, .ref fA, .ref fQ, .ref fR, .int w9, .ref fN])), (fS, .inl (cI, 3, (.inl fs)))]) (va_A [(xSta, .inr (7, [.int (-1), .ref fL, .ref fS, .ref fP, .ref fT, .ref fA, .ref fQ, .ref fR, .int w9, .ref fN])), (fS, .inl (cI, 3, (.inl fs)))] sz)) 0 0 (va_A [(xSta, .inr (7, [.int (-1), .ref fL, .ref fS, .ref fP, .ref fT, .ref fA, .ref fQ, .ref fR, .int w9, .ref fN])), (fS, .inl (cI, 3, (.inl fs)))] sz) := by
  refine Met.ofW (cc := cX7_sideThen) (maxL := 5) (ret := (some .int)) (by decide) rfl ?_
  intro p e s m args below meth c s₁ B hml hv
  obtain ⟨rfl, hsz, hP, hK, hD0⟩ := hv
  have hx := B.exec
  have hb := B.bytes
  have hr := B.returns
  have hts := atoms_spec (ws := wsX7_sideThen) B.pre
  have hown : s.vm.findClass RX7 = some m.cls := findClass_of_methodNamed B.named
  have hlocks := B.notSynchronized
  have hiX7 : ∀ w ∈ u_ws RX7 TX7 10, w ∈ wsX7_sideThen := by decide +kernel
  subst hsz
  have hD := hD0.self (sz := s.heap.size)
  generalize hAe : va_A [(xSta, .inr (7, [.int (-1), .ref fL, .ref fS, .ref fP, .ref fT, .ref fA, .ref fQ, .ref fR, .int w9, .ref fN])), (fS, .inl (cI, 3, (.inl fs)))] s.heap.size = A at hD ⊢
  have hA : ∀ q : Nat, s.heap.size ≤ q → A q := fun q h => by rw [← hAe]; exact Or.inr h
  have hS : va_S A s.heap s.heap [] := va_S.rf
  have hP : va_P (dC, dI) vwCl [(xSta, .inr (7, [.int (-1), .ref fL, .ref fS, .ref fP, .ref fT, .ref fA, .ref fQ, .ref fR, .int w9, .ref fN])), (fS, .inl (cI, 3, (.inl fs)))] s.heap := hP
  have hl := lv_entry ([.ref xSta, .int 0, .int 2, .int 0, .int (nI n)]) (n := 5) (Nat.le_of_ble_eq_true rfl)
  rw [lg_entry_eq]
  generalize (lg_sl ([.ref xSta, .int 0, .int 2, .int 0, .int (nI n)]) ++ List.replicate (5 - (lg_sl ([.ref xSta, .int 0, .int 2, .int 0, .int (nI n)])).length) Slot.unset).toArray = ls at hl ⊢
  have hl : lv_has ls 5 [(0, .ref xSta), (1, .int 0), (2, .int 2), (3, .int 0), (4, .int (nI n))] := hl
  refine lv_iload_n hx hb dX7_sideThen_0 rfl (lv_at hl 1 rfl) ?_
  refine lv_iload_n hx hb dX7_sideThen_1 rfl (lv_at hl 2 rfl) ?_
  refine lv_icmp_ne (tgt := 20) hx hb dX7_sideThen_2 (by decide) (fun _ => ?_) (fun c => absurd c (by decide))
  refine lv_iload_n hx hb dX7_sideThen_20 rfl (lv_at hl 1 rfl) ?_
  refine lv_iload_n hx hb dX7_sideThen_21 rfl (lv_at hl 3 rfl) ?_
  refine lv_icmp_ne (tgt := 42) hx hb dX7_sideThen_22 (by decide) (fun c => absurd (by decide) c) (fun _ => ?_)
  refine lv_aload_n hx hb dX7_sideThen_25 rfl (lv_at hl 0 rfl) ?_
  refine va_get (D := (dC, dI)) (ci := 7) (v := .ref fS) (C := RX7) (T := TX7) (N := 10) hx hb hts hiX7 hown hK hP 0 rfl rfl 2 (by decide) (hts (.fieldLink RX7 19 "ScissorsTable$Stairs" "sides" "[I") (by decide +kernel)) (fun _ h9 => h9) rfl dX7_sideThen_26 ?_
  refine lv_iload_n hx hb dX7_sideThen_29 rfl (lv_at hl 3 rfl) ?_
  refine va_iald hx hb hK hP 1 1 rfl rfl (by show ¬ (_ ∨ _); decide) dX7_sideThen_30 ?_
  refine lv_topi (fun x_1 ex_1 => ?_)
  have ex_1 : x_1 = fs 0 := ex_1
  obtain rfl : x_1 = nI u := ex_1.trans hs
  refine lv_iload hx hb dX7_sideThen_31 (lv_at hl 4 rfl) ?_
  refine lv_iconst (v := 1) hx hb dX7_sideThen_33 (by decide) ?_
  refine lv_isub hx hb dX7_sideThen_34 ?_
  refine lv_topi (fun x_2 ex_2 => ?_)
  obtain rfl : x_2 = nI (n - 1) := ex_2.trans (pk_sub (a := n) (b := 1) (by omega))
  refine lv_idiv hx hb dX7_sideThen_35 (nI_ne0 (by omega) (by omega)) ?_
  refine lv_topi (fun x_3 ex_3 => ?_)
  obtain rfl : x_3 = nI (u / (n - 1)) := ex_3.trans (pk_div (a := u) (d := n - 1) (by omega) (by omega) (by omega))
  refine lv_iload hx hb dX7_sideThen_36 (lv_at hl 4 rfl) ?_
  refine lv_imul hx hb dX7_sideThen_38 ?_
  refine lv_topi (fun x_4 ex_4 => ?_)
  obtain rfl : x_4 = nI ((u / (n - 1)) * n) := ex_4.trans (pk_mul (u / (n - 1)) n)
  refine lv_goto (tgt := 48) hx hb dX7_sideThen_39 (by decide) ?_
  have hP9 := hP.sub (ws' := [(xSta, .inr (7, [.int (-1), .ref fL, .ref fS, .ref fP, .ref fT, .ref fA, .ref fQ, .ref fR, .int w9, .ref fN])), (fS, .inl (cI, 3, (.inl fs)))]) [0, 1] rfl
  have hD9 := hD.sub (ws' := [(xSta, .inr (7, [.int (-1), .ref fL, .ref fS, .ref fP, .ref fT, .ref fA, .ref fQ, .ref fR, .int w9, .ref fN])), (fS, .inl (cI, 3, (.inl fs)))]) [0, 1] (by decide) rfl
  refine W.widen (k := 0) (n := 0) (Nat.le_of_ble_eq_true rfl) (Nat.le_of_ble_eq_true rfl) ?_
  exact W.iret (v := (nI ((u / (n - 1)) * n))) hx hb hr (fun t ht hW => ⟨⟨(nI ((u / (n - 1)) * n)), (), rfl, rfl, by rw [ht]; exact hP9, va_K.moved hW.alike hK, hD9⟩, hS.F ht⟩) hS.2.2 dX7_sideThen_48
set_option maxHeartbeats 4000000 in
set_option maxRecDepth 100000 in
theorem c_X7_sideThen_120 (l : Launch) (dC : Nat → ClassId) (dI : Nat → Nat → Nat) (cB cI cJ : ClassId) (sz : Nat) (xSta fL fS fP fT fA fQ fR fN : Nat) (w9 : Int32) (fs : Nat → Int32) (u n : Nat) (hs : fs 1 = nI u) (hu : u ≤ 24) (hn : 2 ≤ n ∧ n ≤ 24) : Met l yX7_sideThen wsX7_sideThen ({ frames := 1, cells := 0, slots := 0, locals := 24 }) (va_Pc [.ref xSta, .int 1, .int 2, .int 0, .int (nI n)] (fun U => U.heap.size = sz ∧ va_P (dC, dI) vwCl [(xSta, .inr (7, [.int (-1), .ref fL, .ref fS, .ref fP, .ref fT, .ref fA, .ref fQ, .ref fR, .int w9, .ref fN])), (fS, .inl (cI, 3, (.inl fs)))] U.heap ∧ va_K (dC, dI) vwCl [(cB, .byte), (cI, .int), (cJ, .long)] U ∧ va_D (fun _ => True) [(xSta, .inr (7, [.int (-1), .ref fL, .ref fS, .ref fP, .ref fT, .ref fA, .ref fQ, .ref fR, .int w9, .ref fN])), (fS, .inl (cI, 3, (.inl fs)))])) (va_Qi (fun (r : Int32) (_ : Unit) => r = nI (u)) (fun _ t => va_P (dC, dI) vwCl [(xSta, .inr (7, [.int (-1), .ref fL, .ref fS, .ref fP, .ref fT, .ref fA, .ref fQ, .ref fR, .int w9, .ref fN])), (fS, .inl (cI, 3, (.inl fs)))] t.heap ∧ va_K (dC, dI) vwCl [(cB, .byte), (cI, .int), (cJ, .long)] t ∧ va_D (va_A [(xSta, .inr (7, [.int (-1), .ref fL, .ref fS, .ref fP, .ref fT, .ref fA, .ref fQ, .ref fR, .int w9, .ref fN])), (fS, .inl (cI, 3, (.inl fs)))] sz) [(xSta, .inr (7, [.int (-1), .ref fL, .ref fS, .ref fP, .ref fT, .ref fA, .ref fQ, .ref fR, .int w9, .ref fN])), (fS, .inl (cI, 3, (.inl fs)))]) (va_A [(xSta, .inr (7, [.int (-1), .ref fL, .ref fS, .ref fP, .ref fT, .ref fA, .ref fQ, .ref fR, .int w9, .ref fN])), (fS, .inl (cI, 3, (.inl fs)))] sz)) 0 0 (va_A [(xSta, .inr (7, [.int (-1), .ref fL, .ref fS, .ref fP, .ref fT, .ref fA, .ref fQ, .ref fR, .int w9, .ref fN])), (fS, .inl (cI, 3, (.inl fs)))] sz) := by
  refine Met.ofW (cc := cX7_sideThen) (maxL := 5) (ret := (some .int)) (by decide) rfl ?_
  intro p e s m args below meth c s₁ B hml hv
  obtain ⟨rfl, hsz, hP, hK, hD0⟩ := hv
  have hx := B.exec
  have hb := B.bytes
  have hr := B.returns
  have hts := atoms_spec (ws := wsX7_sideThen) B.pre
  have hown : s.vm.findClass RX7 = some m.cls := findClass_of_methodNamed B.named
  have hlocks := B.notSynchronized
  have hiX7 : ∀ w ∈ u_ws RX7 TX7 10, w ∈ wsX7_sideThen := by decide +kernel
  subst hsz
  have hD := hD0.self (sz := s.heap.size)
  generalize hAe : va_A [(xSta, .inr (7, [.int (-1), .ref fL, .ref fS, .ref fP, .ref fT, .ref fA, .ref fQ, .ref fR, .int w9, .ref fN])), (fS, .inl (cI, 3, (.inl fs)))] s.heap.size = A at hD ⊢
  have hA : ∀ q : Nat, s.heap.size ≤ q → A q := fun q h => by rw [← hAe]; exact Or.inr h
  have hS : va_S A s.heap s.heap [] := va_S.rf
  have hP : va_P (dC, dI) vwCl [(xSta, .inr (7, [.int (-1), .ref fL, .ref fS, .ref fP, .ref fT, .ref fA, .ref fQ, .ref fR, .int w9, .ref fN])), (fS, .inl (cI, 3, (.inl fs)))] s.heap := hP
  have hl := lv_entry ([.ref xSta, .int 1, .int 2, .int 0, .int (nI n)]) (n := 5) (Nat.le_of_ble_eq_true rfl)
  rw [lg_entry_eq]
  generalize (lg_sl ([.ref xSta, .int 1, .int 2, .int 0, .int (nI n)]) ++ List.replicate (5 - (lg_sl ([.ref xSta, .int 1, .int 2, .int 0, .int (nI n)])).length) Slot.unset).toArray = ls at hl ⊢
  have hl : lv_has ls 5 [(0, .ref xSta), (1, .int 1), (2, .int 2), (3, .int 0), (4, .int (nI n))] := hl
  refine lv_iload_n hx hb dX7_sideThen_0 rfl (lv_at hl 1 rfl) ?_
  refine lv_iload_n hx hb dX7_sideThen_1 rfl (lv_at hl 2 rfl) ?_
  refine lv_icmp_ne (tgt := 20) hx hb dX7_sideThen_2 (by decide) (fun _ => ?_) (fun c => absurd c (by decide))
  refine lv_iload_n hx hb dX7_sideThen_20 rfl (lv_at hl 1 rfl) ?_
  refine lv_iload_n hx hb dX7_sideThen_21 rfl (lv_at hl 3 rfl) ?_
  refine lv_icmp_ne (tgt := 42) hx hb dX7_sideThen_22 (by decide) (fun _ => ?_) (fun c => absurd c (by decide))
  refine lv_aload_n hx hb dX7_sideThen_42 rfl (lv_at hl 0 rfl) ?_
  refine va_get (D := (dC, dI)) (ci := 7) (v := .ref fS) (C := RX7) (T := TX7) (N := 10) hx hb hts hiX7 hown hK hP 0 rfl rfl 2 (by decide) (hts (.fieldLink RX7 19 "ScissorsTable$Stairs" "sides" "[I") (by decide +kernel)) (fun _ h9 => h9) rfl dX7_sideThen_43 ?_
  refine lv_iload_n hx hb dX7_sideThen_46 rfl (lv_at hl 1 rfl) ?_
  refine va_iald hx hb hK hP 1 1 rfl rfl (by show ¬ (_ ∨ _); decide) dX7_sideThen_47 ?_
  refine lv_topi (fun x_1 ex_1 => ?_)
  have ex_1 : x_1 = fs 1 := ex_1
  obtain rfl : x_1 = nI u := ex_1.trans hs
  have hP9 := hP.sub (ws' := [(xSta, .inr (7, [.int (-1), .ref fL, .ref fS, .ref fP, .ref fT, .ref fA, .ref fQ, .ref fR, .int w9, .ref fN])), (fS, .inl (cI, 3, (.inl fs)))]) [0, 1] rfl
  have hD9 := hD.sub (ws' := [(xSta, .inr (7, [.int (-1), .ref fL, .ref fS, .ref fP, .ref fT, .ref fA, .ref fQ, .ref fR, .int w9, .ref fN])), (fS, .inl (cI, 3, (.inl fs)))]) [0, 1] (by decide) rfl
  refine W.widen (k := 0) (n := 0) (Nat.le_of_ble_eq_true rfl) (Nat.le_of_ble_eq_true rfl) ?_
  exact W.iret (v := (nI u)) hx hb hr (fun t ht hW => ⟨⟨(nI u), (), rfl, rfl, by rw [ht]; exact hP9, va_K.moved hW.alike hK, hD9⟩, hS.F ht⟩) hS.2.2 dX7_sideThen_48
set_option maxHeartbeats 4000000 in
set_option maxRecDepth 100000 in
theorem c_X7_sideThen_021 (l : Launch) (dC : Nat → ClassId) (dI : Nat → Nat → Nat) (cB cI cJ : ClassId) (sz : Nat) (xSta fL fS fP fT fA fQ fR fN : Nat) (w9 : Int32) (fs : Nat → Int32) (u n : Nat) (hs : fs 0 = nI u) (hu : u ≤ 24) (hn : 2 ≤ n ∧ n ≤ 24) : Met l yX7_sideThen wsX7_sideThen ({ frames := 1, cells := 0, slots := 0, locals := 24 }) (va_Pc [.ref xSta, .int 0, .int 2, .int 1, .int (nI n)] (fun U => U.heap.size = sz ∧ va_P (dC, dI) vwCl [(xSta, .inr (7, [.int (-1), .ref fL, .ref fS, .ref fP, .ref fT, .ref fA, .ref fQ, .ref fR, .int w9, .ref fN])), (fS, .inl (cI, 3, (.inl fs)))] U.heap ∧ va_K (dC, dI) vwCl [(cB, .byte), (cI, .int), (cJ, .long)] U ∧ va_D (fun _ => True) [(xSta, .inr (7, [.int (-1), .ref fL, .ref fS, .ref fP, .ref fT, .ref fA, .ref fQ, .ref fR, .int w9, .ref fN])), (fS, .inl (cI, 3, (.inl fs)))])) (va_Qi (fun (r : Int32) (_ : Unit) => r = nI (u)) (fun _ t => va_P (dC, dI) vwCl [(xSta, .inr (7, [.int (-1), .ref fL, .ref fS, .ref fP, .ref fT, .ref fA, .ref fQ, .ref fR, .int w9, .ref fN])), (fS, .inl (cI, 3, (.inl fs)))] t.heap ∧ va_K (dC, dI) vwCl [(cB, .byte), (cI, .int), (cJ, .long)] t ∧ va_D (va_A [(xSta, .inr (7, [.int (-1), .ref fL, .ref fS, .ref fP, .ref fT, .ref fA, .ref fQ, .ref fR, .int w9, .ref fN])), (fS, .inl (cI, 3, (.inl fs)))] sz) [(xSta, .inr (7, [.int (-1), .ref fL, .ref fS, .ref fP, .ref fT, .ref fA, .ref fQ, .ref fR, .int w9, .ref fN])), (fS, .inl (cI, 3, (.inl fs)))]) (va_A [(xSta, .inr (7, [.int (-1), .ref fL, .ref fS, .ref fP, .ref fT, .ref fA, .ref fQ, .ref fR, .int w9, .ref fN])), (fS, .inl (cI, 3, (.inl fs)))] sz)) 0 0 (va_A [(xSta, .inr (7, [.int (-1), .ref fL, .ref fS, .ref fP, .ref fT, .ref fA, .ref fQ, .ref fR, .int w9, .ref fN])), (fS, .inl (cI, 3, (.inl fs)))] sz) := by
  refine Met.ofW (cc := cX7_sideThen) (maxL := 5) (ret := (some .int)) (by decide) rfl ?_
  intro p e s m args below meth c s₁ B hml hv
  obtain ⟨rfl, hsz, hP, hK, hD0⟩ := hv
  have hx := B.exec
  have hb := B.bytes
  have hr := B.returns
  have hts := atoms_spec (ws := wsX7_sideThen) B.pre
  have hown : s.vm.findClass RX7 = some m.cls := findClass_of_methodNamed B.named
  have hlocks := B.notSynchronized
  have hiX7 : ∀ w ∈ u_ws RX7 TX7 10, w ∈ wsX7_sideThen := by decide +kernel
  subst hsz
  have hD := hD0.self (sz := s.heap.size)
  generalize hAe : va_A [(xSta, .inr (7, [.int (-1), .ref fL, .ref fS, .ref fP, .ref fT, .ref fA, .ref fQ, .ref fR, .int w9, .ref fN])), (fS, .inl (cI, 3, (.inl fs)))] s.heap.size = A at hD ⊢
  have hA : ∀ q : Nat, s.heap.size ≤ q → A q := fun q h => by rw [← hAe]; exact Or.inr h
  have hS : va_S A s.heap s.heap [] := va_S.rf
  have hP : va_P (dC, dI) vwCl [(xSta, .inr (7, [.int (-1), .ref fL, .ref fS, .ref fP, .ref fT, .ref fA, .ref fQ, .ref fR, .int w9, .ref fN])), (fS, .inl (cI, 3, (.inl fs)))] s.heap := hP
  have hl := lv_entry ([.ref xSta, .int 0, .int 2, .int 1, .int (nI n)]) (n := 5) (Nat.le_of_ble_eq_true rfl)
  rw [lg_entry_eq]
  generalize (lg_sl ([.ref xSta, .int 0, .int 2, .int 1, .int (nI n)]) ++ List.replicate (5 - (lg_sl ([.ref xSta, .int 0, .int 2, .int 1, .int (nI n)])).length) Slot.unset).toArray = ls at hl ⊢
  have hl : lv_has ls 5 [(0, .ref xSta), (1, .int 0), (2, .int 2), (3, .int 1), (4, .int (nI n))] := hl
  refine lv_iload_n hx hb dX7_sideThen_0 rfl (lv_at hl 1 rfl) ?_
  refine lv_iload_n hx hb dX7_sideThen_1 rfl (lv_at hl 2 rfl) ?_
  refine lv_icmp_ne (tgt := 20) hx hb dX7_sideThen_2 (by decide) (fun _ => ?_) (fun c => absurd c (by decide))
  refine lv_iload_n hx hb dX7_sideThen_20 rfl (lv_at hl 1 rfl) ?_
  refine lv_iload_n hx hb dX7_sideThen_21 rfl (lv_at hl 3 rfl) ?_
  refine lv_icmp_ne (tgt := 42) hx hb dX7_sideThen_22 (by decide) (fun _ => ?_) (fun c => absurd c (by decide))
  refine lv_aload_n hx hb dX7_sideThen_42 rfl (lv_at hl 0 rfl) ?_
  refine va_get (D := (dC, dI)) (ci := 7) (v := .ref fS) (C := RX7) (T := TX7) (N := 10) hx hb hts hiX7 hown hK hP 0 rfl rfl 2 (by decide) (hts (.fieldLink RX7 19 "ScissorsTable$Stairs" "sides" "[I") (by decide +kernel)) (fun _ h9 => h9) rfl dX7_sideThen_43 ?_
  refine lv_iload_n hx hb dX7_sideThen_46 rfl (lv_at hl 1 rfl) ?_
  refine va_iald hx hb hK hP 1 1 rfl rfl (by show ¬ (_ ∨ _); decide) dX7_sideThen_47 ?_
  refine lv_topi (fun x_1 ex_1 => ?_)
  have ex_1 : x_1 = fs 0 := ex_1
  obtain rfl : x_1 = nI u := ex_1.trans hs
  have hP9 := hP.sub (ws' := [(xSta, .inr (7, [.int (-1), .ref fL, .ref fS, .ref fP, .ref fT, .ref fA, .ref fQ, .ref fR, .int w9, .ref fN])), (fS, .inl (cI, 3, (.inl fs)))]) [0, 1] rfl
  have hD9 := hD.sub (ws' := [(xSta, .inr (7, [.int (-1), .ref fL, .ref fS, .ref fP, .ref fT, .ref fA, .ref fQ, .ref fR, .int w9, .ref fN])), (fS, .inl (cI, 3, (.inl fs)))]) [0, 1] (by decide) rfl
  refine W.widen (k := 0) (n := 0) (Nat.le_of_ble_eq_true rfl) (Nat.le_of_ble_eq_true rfl) ?_
  exact W.iret (v := (nI u)) hx hb hr (fun t ht hW => ⟨⟨(nI u), (), rfl, rfl, by rw [ht]; exact hP9, va_K.moved hW.alike hK, hD9⟩, hS.F ht⟩) hS.2.2 dX7_sideThen_48
set_option maxHeartbeats 4000000 in
set_option maxRecDepth 100000 in
theorem c_X7_sideThen_121 (l : Launch) (dC : Nat → ClassId) (dI : Nat → Nat → Nat) (cB cI cJ : ClassId) (sz : Nat) (xSta fL fS fP fT fA fQ fR fN : Nat) (w9 : Int32) (fs : Nat → Int32) (u n : Nat) (hs : fs 1 = nI u) (hu : u ≤ 24) (hn : 2 ≤ n ∧ n ≤ 24) : Met l yX7_sideThen wsX7_sideThen ({ frames := 1, cells := 0, slots := 0, locals := 24 }) (va_Pc [.ref xSta, .int 1, .int 2, .int 1, .int (nI n)] (fun U => U.heap.size = sz ∧ va_P (dC, dI) vwCl [(xSta, .inr (7, [.int (-1), .ref fL, .ref fS, .ref fP, .ref fT, .ref fA, .ref fQ, .ref fR, .int w9, .ref fN])), (fS, .inl (cI, 3, (.inl fs)))] U.heap ∧ va_K (dC, dI) vwCl [(cB, .byte), (cI, .int), (cJ, .long)] U ∧ va_D (fun _ => True) [(xSta, .inr (7, [.int (-1), .ref fL, .ref fS, .ref fP, .ref fT, .ref fA, .ref fQ, .ref fR, .int w9, .ref fN])), (fS, .inl (cI, 3, (.inl fs)))])) (va_Qi (fun (r : Int32) (_ : Unit) => r = nI (u / (n - 1) * n)) (fun _ t => va_P (dC, dI) vwCl [(xSta, .inr (7, [.int (-1), .ref fL, .ref fS, .ref fP, .ref fT, .ref fA, .ref fQ, .ref fR, .int w9, .ref fN])), (fS, .inl (cI, 3, (.inl fs)))] t.heap ∧ va_K (dC, dI) vwCl [(cB, .byte), (cI, .int), (cJ, .long)] t ∧ va_D (va_A [(xSta, .inr (7, [.int (-1), .ref fL, .ref fS, .ref fP, .ref fT, .ref fA, .ref fQ, .ref fR, .int w9, .ref fN])), (fS, .inl (cI, 3, (.inl fs)))] sz) [(xSta, .inr (7, [.int (-1), .ref fL, .ref fS, .ref fP, .ref fT, .ref fA, .ref fQ, .ref fR, .int w9, .ref fN])), (fS, .inl (cI, 3, (.inl fs)))]) (va_A [(xSta, .inr (7, [.int (-1), .ref fL, .ref fS, .ref fP, .ref fT, .ref fA, .ref fQ, .ref fR, .int w9, .ref fN])), (fS, .inl (cI, 3, (.inl fs)))] sz)) 0 0 (va_A [(xSta, .inr (7, [.int (-1), .ref fL, .ref fS, .ref fP, .ref fT, .ref fA, .ref fQ, .ref fR, .int w9, .ref fN])), (fS, .inl (cI, 3, (.inl fs)))] sz) := by
  refine Met.ofW (cc := cX7_sideThen) (maxL := 5) (ret := (some .int)) (by decide) rfl ?_
  intro p e s m args below meth c s₁ B hml hv
  obtain ⟨rfl, hsz, hP, hK, hD0⟩ := hv
  have hx := B.exec
  have hb := B.bytes
  have hr := B.returns
  have hts := atoms_spec (ws := wsX7_sideThen) B.pre
  have hown : s.vm.findClass RX7 = some m.cls := findClass_of_methodNamed B.named
  have hlocks := B.notSynchronized
  have hiX7 : ∀ w ∈ u_ws RX7 TX7 10, w ∈ wsX7_sideThen := by decide +kernel
  subst hsz
  have hD := hD0.self (sz := s.heap.size)
  generalize hAe : va_A [(xSta, .inr (7, [.int (-1), .ref fL, .ref fS, .ref fP, .ref fT, .ref fA, .ref fQ, .ref fR, .int w9, .ref fN])), (fS, .inl (cI, 3, (.inl fs)))] s.heap.size = A at hD ⊢
  have hA : ∀ q : Nat, s.heap.size ≤ q → A q := fun q h => by rw [← hAe]; exact Or.inr h
  have hS : va_S A s.heap s.heap [] := va_S.rf
  have hP : va_P (dC, dI) vwCl [(xSta, .inr (7, [.int (-1), .ref fL, .ref fS, .ref fP, .ref fT, .ref fA, .ref fQ, .ref fR, .int w9, .ref fN])), (fS, .inl (cI, 3, (.inl fs)))] s.heap := hP
  have hl := lv_entry ([.ref xSta, .int 1, .int 2, .int 1, .int (nI n)]) (n := 5) (Nat.le_of_ble_eq_true rfl)
  rw [lg_entry_eq]
  generalize (lg_sl ([.ref xSta, .int 1, .int 2, .int 1, .int (nI n)]) ++ List.replicate (5 - (lg_sl ([.ref xSta, .int 1, .int 2, .int 1, .int (nI n)])).length) Slot.unset).toArray = ls at hl ⊢
  have hl : lv_has ls 5 [(0, .ref xSta), (1, .int 1), (2, .int 2), (3, .int 1), (4, .int (nI n))] := hl
  refine lv_iload_n hx hb dX7_sideThen_0 rfl (lv_at hl 1 rfl) ?_
  refine lv_iload_n hx hb dX7_sideThen_1 rfl (lv_at hl 2 rfl) ?_
  refine lv_icmp_ne (tgt := 20) hx hb dX7_sideThen_2 (by decide) (fun _ => ?_) (fun c => absurd c (by decide))
  refine lv_iload_n hx hb dX7_sideThen_20 rfl (lv_at hl 1 rfl) ?_
  refine lv_iload_n hx hb dX7_sideThen_21 rfl (lv_at hl 3 rfl) ?_
  refine lv_icmp_ne (tgt := 42) hx hb dX7_sideThen_22 (by decide) (fun c => absurd (by decide) c) (fun _ => ?_)
  refine lv_aload_n hx hb dX7_sideThen_25 rfl (lv_at hl 0 rfl) ?_
  refine va_get (D := (dC, dI)) (ci := 7) (v := .ref fS) (C := RX7) (T := TX7) (N := 10) hx hb hts hiX7 hown hK hP 0 rfl rfl 2 (by decide) (hts (.fieldLink RX7 19 "ScissorsTable$Stairs" "sides" "[I") (by decide +kernel)) (fun _ h9 => h9) rfl dX7_sideThen_26 ?_
  refine lv_iload_n hx hb dX7_sideThen_29 rfl (lv_at hl 3 rfl) ?_
  refine va_iald hx hb hK hP 1 1 rfl rfl (by show ¬ (_ ∨ _); decide) dX7_sideThen_30 ?_
  refine lv_topi (fun x_1 ex_1 => ?_)
  have ex_1 : x_1 = fs 1 := ex_1
  obtain rfl : x_1 = nI u := ex_1.trans hs
  refine lv_iload hx hb dX7_sideThen_31 (lv_at hl 4 rfl) ?_
  refine lv_iconst (v := 1) hx hb dX7_sideThen_33 (by decide) ?_
  refine lv_isub hx hb dX7_sideThen_34 ?_
  refine lv_topi (fun x_2 ex_2 => ?_)
  obtain rfl : x_2 = nI (n - 1) := ex_2.trans (pk_sub (a := n) (b := 1) (by omega))
  refine lv_idiv hx hb dX7_sideThen_35 (nI_ne0 (by omega) (by omega)) ?_
  refine lv_topi (fun x_3 ex_3 => ?_)
  obtain rfl : x_3 = nI (u / (n - 1)) := ex_3.trans (pk_div (a := u) (d := n - 1) (by omega) (by omega) (by omega))
  refine lv_iload hx hb dX7_sideThen_36 (lv_at hl 4 rfl) ?_
  refine lv_imul hx hb dX7_sideThen_38 ?_
  refine lv_topi (fun x_4 ex_4 => ?_)
  obtain rfl : x_4 = nI ((u / (n - 1)) * n) := ex_4.trans (pk_mul (u / (n - 1)) n)
  refine lv_goto (tgt := 48) hx hb dX7_sideThen_39 (by decide) ?_
  have hP9 := hP.sub (ws' := [(xSta, .inr (7, [.int (-1), .ref fL, .ref fS, .ref fP, .ref fT, .ref fA, .ref fQ, .ref fR, .int w9, .ref fN])), (fS, .inl (cI, 3, (.inl fs)))]) [0, 1] rfl
  have hD9 := hD.sub (ws' := [(xSta, .inr (7, [.int (-1), .ref fL, .ref fS, .ref fP, .ref fT, .ref fA, .ref fQ, .ref fR, .int w9, .ref fN])), (fS, .inl (cI, 3, (.inl fs)))]) [0, 1] (by decide) rfl
  refine W.widen (k := 0) (n := 0) (Nat.le_of_ble_eq_true rfl) (Nat.le_of_ble_eq_true rfl) ?_
  exact W.iret (v := (nI ((u / (n - 1)) * n))) hx hb hr (fun t ht hW => ⟨⟨(nI ((u / (n - 1)) * n)), (), rfl, rfl, by rw [ht]; exact hP9, va_K.moved hW.alike hK, hD9⟩, hS.F ht⟩) hS.2.2 dX7_sideThen_48
