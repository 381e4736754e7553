theorem dX9_bytesIn_0 : decode cX9_bytesIn 0 = .ok (.iconst 0, 1) := by decide +kernel
theorem dX9_bytesIn_1 : decode cX9_bytesIn 1 = .ok (.istore_n 1, 1) := by decide +kernel
theorem dX9_bytesIn_2 : decode cX9_bytesIn 2 = .ok (.bipush 24, 2) := by decide +kernel
theorem dX9_bytesIn_4 : decode cX9_bytesIn 4 = .ok (.istore_n 2, 1) := by decide +kernel
theorem dX9_bytesIn_5 : decode cX9_bytesIn 5 = .ok (.iload_n 2, 1) := by decide +kernel
theorem dX9_bytesIn_6 : decode cX9_bytesIn 6 = .ok (.ifCond .lt 27, 3) := by decide +kernel
theorem dX9_bytesIn_9 : decode cX9_bytesIn 9 = .ok (.iload_n 1, 1) := by decide +kernel
theorem dX9_bytesIn_10 : decode cX9_bytesIn 10 = .ok (.iload_n 0, 1) := by decide +kernel
theorem dX9_bytesIn_11 : decode cX9_bytesIn 11 = .ok (.iload_n 2, 1) := by decide +kernel
theorem dX9_bytesIn_12 : decode cX9_bytesIn 12 = .ok (.ishr, 1) := by decide +kernel
theorem dX9_bytesIn_13 : decode cX9_bytesIn 13 = .ok (.sipush 255, 3) := by decide +kernel
theorem dX9_bytesIn_16 : decode cX9_bytesIn 16 = .ok (.iand, 1) := by decide +kernel
theorem dX9_bytesIn_17 : decode cX9_bytesIn 17 = .ok (.ifCond .eq 7, 3) := by decide +kernel
theorem dX9_bytesIn_20 : decode cX9_bytesIn 20 = .ok (.iconst 1, 1) := by decide +kernel
theorem dX9_bytesIn_21 : decode cX9_bytesIn 21 = .ok (.goto 4, 3) := by decide +kernel
theorem dX9_bytesIn_24 : decode cX9_bytesIn 24 = .ok (.iconst 0, 1) := by decide +kernel
theorem dX9_bytesIn_25 : decode cX9_bytesIn 25 = .ok (.iadd, 1) := by decide +kernel
theorem dX9_bytesIn_26 : decode cX9_bytesIn 26 = .ok (.istore_n 1, 1) := by decide +kernel
theorem dX9_bytesIn_27 : decode cX9_bytesIn 27 = .ok (.iinc 2 (-8), 3) := by decide +kernel
theorem dX9_bytesIn_30 : decode cX9_bytesIn 30 = .ok (.goto (-25), 3) := by decide +kernel
theorem dX9_bytesIn_33 : decode cX9_bytesIn 33 = .ok (.iload_n 1, 1) := by decide +kernel
theorem dX9_bytesIn_34 : decode cX9_bytesIn 34 = .ok (.ireturn, 1) := by decide +kernel
theorem dX9_take_0 : decode cX9_take 0 = .ok (.bipush 24, 2) := by decide +kernel
theorem dX9_take_2 : decode cX9_take 2 = .ok (.istore_n 2, 1) := by decide +kernel
theorem dX9_take_3 : decode cX9_take 3 = .ok (.iload_n 2, 1) := by decide +kernel
theorem dX9_take_4 : decode cX9_take 4 = .ok (.ifCond .lt 52, 3) := by decide +kernel
theorem dX9_take_7 : decode cX9_take 7 = .ok (.iload_n 1, 1) := by decide +kernel
theorem dX9_take_8 : decode cX9_take 8 = .ok (.iload_n 2, 1) := by decide +kernel
theorem dX9_take_9 : decode cX9_take 9 = .ok (.ishr, 1) := by decide +kernel
theorem dX9_take_10 : decode cX9_take 10 = .ok (.sipush 255, 3) := by decide +kernel
theorem dX9_take_13 : decode cX9_take 13 = .ok (.iand, 1) := by decide +kernel
theorem dX9_take_14 : decode cX9_take 14 = .ok (.istore_n 3, 1) := by decide +kernel
theorem dX9_take_15 : decode cX9_take 15 = .ok (.iload_n 3, 1) := by decide +kernel
theorem dX9_take_16 : decode cX9_take 16 = .ok (.ifCond .eq 34, 3) := by decide +kernel
theorem dX9_take_19 : decode cX9_take 19 = .ok (.aload_n 0, 1) := by decide +kernel
theorem dX9_take_20 : decode cX9_take 20 = .ok (.getfield 13, 3) := by decide +kernel
theorem dX9_take_23 : decode cX9_take 23 = .ok (.sipush 600, 3) := by decide +kernel
theorem dX9_take_26 : decode cX9_take 26 = .ok (.if_icmp .ge 24, 3) := by decide +kernel
theorem dX9_take_29 : decode cX9_take 29 = .ok (.aload_n 0, 1) := by decide +kernel
theorem dX9_take_30 : decode cX9_take 30 = .ok (.getfield 9, 3) := by decide +kernel
theorem dX9_take_33 : decode cX9_take 33 = .ok (.aload_n 0, 1) := by decide +kernel
theorem dX9_take_34 : decode cX9_take 34 = .ok (.getfield 13, 3) := by decide +kernel
theorem dX9_take_37 : decode cX9_take 37 = .ok (.iload_n 3, 1) := by decide +kernel
theorem dX9_take_38 : decode cX9_take 38 = .ok (.i2b, 1) := by decide +kernel
theorem dX9_take_39 : decode cX9_take 39 = .ok (.bastore, 1) := by decide +kernel
theorem dX9_take_40 : decode cX9_take 40 = .ok (.aload_n 0, 1) := by decide +kernel
theorem dX9_take_41 : decode cX9_take 41 = .ok (.dup, 1) := by decide +kernel
theorem dX9_take_42 : decode cX9_take 42 = .ok (.getfield 13, 3) := by decide +kernel
theorem dX9_take_45 : decode cX9_take 45 = .ok (.iconst 1, 1) := by decide +kernel
theorem dX9_take_46 : decode cX9_take 46 = .ok (.iadd, 1) := by decide +kernel
theorem dX9_take_47 : decode cX9_take 47 = .ok (.putfield 13, 3) := by decide +kernel
theorem dX9_take_50 : decode cX9_take 50 = .ok (.iinc 2 (-8), 3) := by decide +kernel
theorem dX9_take_53 : decode cX9_take 53 = .ok (.goto (-50), 3) := by decide +kernel
theorem dX9_take_56 : decode cX9_take 56 = .ok (.return_, 1) := by decide +kernel
theorem dX11_bytesOf_0 : decode cX11_bytesOf 0 = .ok (.iconst 0, 1) := by decide +kernel
theorem dX11_bytesOf_1 : decode cX11_bytesOf 1 = .ok (.istore_n 1, 1) := by decide +kernel
theorem dX11_bytesOf_2 : decode cX11_bytesOf 2 = .ok (.iconst 0, 1) := by decide +kernel
theorem dX11_bytesOf_3 : decode cX11_bytesOf 3 = .ok (.istore_n 2, 1) := by decide +kernel
theorem dX11_bytesOf_4 : decode cX11_bytesOf 4 = .ok (.iload_n 2, 1) := by decide +kernel
theorem dX11_bytesOf_5 : decode cX11_bytesOf 5 = .ok (.iconst 4, 1) := by decide +kernel
theorem dX11_bytesOf_6 : decode cX11_bytesOf 6 = .ok (.if_icmp .ge 30, 3) := by decide +kernel
theorem dX11_bytesOf_9 : decode cX11_bytesOf 9 = .ok (.iload_n 1, 1) := by decide +kernel
theorem dX11_bytesOf_10 : decode cX11_bytesOf 10 = .ok (.iload_n 0, 1) := by decide +kernel
theorem dX11_bytesOf_11 : decode cX11_bytesOf 11 = .ok (.bipush 8, 2) := by decide +kernel
theorem dX11_bytesOf_13 : decode cX11_bytesOf 13 = .ok (.iload_n 2, 1) := by decide +kernel
theorem dX11_bytesOf_14 : decode cX11_bytesOf 14 = .ok (.imul, 1) := by decide +kernel
theorem dX11_bytesOf_15 : decode cX11_bytesOf 15 = .ok (.ishr, 1) := by decide +kernel
theorem dX11_bytesOf_16 : decode cX11_bytesOf 16 = .ok (.sipush 255, 3) := by decide +kernel
theorem dX11_bytesOf_19 : decode cX11_bytesOf 19 = .ok (.iand, 1) := by decide +kernel
theorem dX11_bytesOf_20 : decode cX11_bytesOf 20 = .ok (.ifCond .ne 7, 3) := by decide +kernel
theorem dX11_bytesOf_23 : decode cX11_bytesOf 23 = .ok (.iconst 0, 1) := by decide +kernel
theorem dX11_bytesOf_24 : decode cX11_bytesOf 24 = .ok (.goto 4, 3) := by decide +kernel
theorem dX11_bytesOf_27 : decode cX11_bytesOf 27 = .ok (.iconst 1, 1) := by decide +kernel
theorem dX11_bytesOf_28 : decode cX11_bytesOf 28 = .ok (.iadd, 1) := by decide +kernel
theorem dX11_bytesOf_29 : decode cX11_bytesOf 29 = .ok (.istore_n 1, 1) := by decide +kernel
theorem dX11_bytesOf_30 : decode cX11_bytesOf 30 = .ok (.iinc 2 1, 3) := by decide +kernel
theorem dX11_bytesOf_33 : decode cX11_bytesOf 33 = .ok (.goto (-29), 3) := by decide +kernel
theorem dX11_bytesOf_36 : decode cX11_bytesOf 36 = .ok (.iload_n 1, 1) := by decide +kernel
theorem dX11_bytesOf_37 : decode cX11_bytesOf 37 = .ok (.ireturn, 1) := by decide +kernel
theorem dX11_brings_0 : decode cX11_brings 0 = .ok (.bipush 24, 2) := by decide +kernel
theorem dX11_brings_2 : decode cX11_brings 2 = .ok (.istore_n 2, 1) := by decide +kernel
theorem dX11_brings_3 : decode cX11_brings 3 = .ok (.iload_n 2, 1) := by decide +kernel
theorem dX11_brings_4 : decode cX11_brings 4 = .ok (.ifCond .lt 45, 3) := by decide +kernel
theorem dX11_brings_7 : decode cX11_brings 7 = .ok (.iload_n 1, 1) := by decide +kernel
theorem dX11_brings_8 : decode cX11_brings 8 = .ok (.iload_n 2, 1) := by decide +kernel
theorem dX11_brings_9 : decode cX11_brings 9 = .ok (.ishr, 1) := by decide +kernel
theorem dX11_brings_10 : decode cX11_brings 10 = .ok (.sipush 255, 3) := by decide +kernel
theorem dX11_brings_13 : decode cX11_brings 13 = .ok (.iand, 1) := by decide +kernel
theorem dX11_brings_14 : decode cX11_brings 14 = .ok (.istore_n 3, 1) := by decide +kernel
theorem dX11_brings_15 : decode cX11_brings 15 = .ok (.iload_n 3, 1) := by decide +kernel
theorem dX11_brings_16 : decode cX11_brings 16 = .ok (.ifCond .ne 6, 3) := by decide +kernel
theorem dX11_brings_19 : decode cX11_brings 19 = .ok (.goto 24, 3) := by decide +kernel
theorem dX11_brings_22 : decode cX11_brings 22 = .ok (.aload_n 0, 1) := by decide +kernel
theorem dX11_brings_23 : decode cX11_brings 23 = .ok (.getfield 9, 3) := by decide +kernel
theorem dX11_brings_26 : decode cX11_brings 26 = .ok (.aload_n 0, 1) := by decide +kernel
theorem dX11_brings_27 : decode cX11_brings 27 = .ok (.getfield 109, 3) := by decide +kernel
theorem dX11_brings_30 : decode cX11_brings 30 = .ok (.iload_n 3, 1) := by decide +kernel
theorem dX11_brings_31 : decode cX11_brings 31 = .ok (.i2b, 1) := by decide +kernel
theorem dX11_brings_32 : decode cX11_brings 32 = .ok (.bastore, 1) := by decide +kernel
theorem dX11_brings_33 : decode cX11_brings 33 = .ok (.aload_n 0, 1) := by decide +kernel
theorem dX11_brings_34 : decode cX11_brings 34 = .ok (.dup, 1) := by decide +kernel
theorem dX11_brings_35 : decode cX11_brings 35 = .ok (.getfield 109, 3) := by decide +kernel
theorem dX11_brings_38 : decode cX11_brings 38 = .ok (.iconst 1, 1) := by decide +kernel
theorem dX11_brings_39 : decode cX11_brings 39 = .ok (.iadd, 1) := by decide +kernel
theorem dX11_brings_40 : decode cX11_brings 40 = .ok (.putfield 109, 3) := by decide +kernel
theorem dX11_brings_43 : decode cX11_brings 43 = .ok (.iinc 2 (-8), 3) := by decide +kernel
theorem dX11_brings_46 : decode cX11_brings 46 = .ok (.goto (-43), 3) := by decide +kernel
theorem dX11_brings_49 : decode cX11_brings 49 = .ok (.return_, 1) := by decide +kernel
set_option maxHeartbeats 4000000 in
set_option maxRecDepth 100000 in
theorem c_X9_bytesIn (l : Launch) (dC : Nat → ClassId) (dI : Nat → Nat → Nat) (cB cI cJ : ClassId) (sz : Nat) (p0 : Int32) : Met l yX9_bytesIn wsX9_bytesIn ({ frames := 1, cells := 0, slots := 0, locals := 24 }) (va_Pc [.int p0] (fun U => U.heap.size = sz ∧ va_P (dC, dI) vwCl [] U.heap ∧ va_K (dC, dI) vwCl [(cB, .byte), (cI, .int), (cJ, .long)] U ∧ va_D (fun _ => True) [])) (va_Qi (fun (r : Int32) (_ : Unit) => r = nI (sp_cnt p0)) (fun _ _ => True) (va_A [] sz)) 0 0 (va_A [] sz) := by
  refine Met.ofW (cc := cX9_bytesIn) (maxL := 3) (ret := (some .int)) (by decide) rfl ?_
  intro p e s m args below meth c s₁ B hml hv
  obtain ⟨rfl, hsz, hP, hK, hD0⟩ := hv
  have hx := B.exec
  have hb := B.bytes
  have hr := B.returns
  have hts := atoms_spec (ws := wsX9_bytesIn) B.pre
  have hown : s.vm.findClass RX9 = some m.cls := findClass_of_methodNamed B.named
  have hlocks := B.notSynchronized
  subst hsz
  have hD := hD0.self (sz := s.heap.size)
  generalize hAe : va_A [] s.heap.size = A at hD ⊢
  have hA : ∀ q : Nat, s.heap.size ≤ q → A q := fun q h => by rw [← hAe]; exact Or.inr h
  have hS : va_S A s.heap s.heap [] := va_S.rf
  have hP : va_P (dC, dI) vwCl [] s.heap := hP
  have hl := lv_entry ([.int p0]) (n := 3) (Nat.le_of_ble_eq_true rfl)
  rw [lg_entry_eq]
  generalize (lg_sl ([.int p0]) ++ List.replicate (3 - (lg_sl ([.int p0])).length) Slot.unset).toArray = ls at hl ⊢
  have hl : lv_has ls 3 [(0, .int p0)] := hl
  refine lv_iconst (v := 0) hx hb dX9_bytesIn_0 (by decide) ?_
  refine lv_istore_n (lv' := [(1, .int 0), (0, .int p0)]) hx hb dX9_bytesIn_1 rfl hl (by decide) rfl (fun ls hl => ?_)
  refine lv_bipush (v := 24) hx hb dX9_bytesIn_2 (by decide) ?_
  refine lv_istore_n (lv' := [(2, .int 24), (1, .int 0), (0, .int p0)]) hx hb dX9_bytesIn_4 rfl hl (by decide) rfl (fun ls hl => ?_)
  refine lv_iload_n hx hb dX9_bytesIn_5 rfl (lv_at hl 0 rfl) ?_
  refine lv_if_lt (tgt := 33) hx hb dX9_bytesIn_6 (by decide) (fun c => absurd c (by decide)) (fun _ => ?_)
  refine lv_iload_n hx hb dX9_bytesIn_9 rfl (lv_at hl 1 rfl) ?_
  refine lv_iload_n hx hb dX9_bytesIn_10 rfl (lv_at hl 2 rfl) ?_
  refine lv_iload_n hx hb dX9_bytesIn_11 rfl (lv_at hl 0 rfl) ?_
  refine lv_ishr hx hb dX9_bytesIn_12 ?_
  refine lv_topi (fun x_1 ex_1 => ?_)
  refine lv_sipush (v := 255) hx hb dX9_bytesIn_13 (by decide) ?_
  refine lv_iand hx hb dX9_bytesIn_16 ?_
  refine lv_topi (fun x_2 ex_2 => ?_)
  refine lv_if_eq (tgt := 24) hx hb dX9_bytesIn_17 (by decide) (fun c_3 => ?_) (fun c_3 => ?_)
  · refine lv_iconst (v := 0) hx hb dX9_bytesIn_24 (by decide) ?_
    refine lv_iadd hx hb dX9_bytesIn_25 ?_
    refine lv_topi (fun x_4 ex_4 => ?_)
    obtain rfl : x_4 = 0 := ex_4.trans (by first | rfl | decide)
    refine lv_istore_n (lv' := [(1, .int 0), (2, .int 24), (0, .int p0)]) hx hb dX9_bytesIn_26 rfl hl (by decide) rfl (fun ls hl => ?_)
    refine lv_iinc (v := 16) (lv' := [(2, .int 16), (1, .int 0), (0, .int p0)]) hx hb dX9_bytesIn_27 hl (k := 1) rfl (by decide) (by decide) rfl (fun ls hl => ?_)
    refine lv_goto (tgt := 5) hx hb dX9_bytesIn_30 (by decide) ?_
    refine lv_iload_n hx hb dX9_bytesIn_5 rfl (lv_at hl 0 rfl) ?_
    refine lv_if_lt (tgt := 33) hx hb dX9_bytesIn_6 (by decide) (fun c => absurd c (by decide)) (fun _ => ?_)
    refine lv_iload_n hx hb dX9_bytesIn_9 rfl (lv_at hl 1 rfl) ?_
    refine lv_iload_n hx hb dX9_bytesIn_10 rfl (lv_at hl 2 rfl) ?_
    refine lv_iload_n hx hb dX9_bytesIn_11 rfl (lv_at hl 0 rfl) ?_
    refine lv_ishr hx hb dX9_bytesIn_12 ?_
    refine lv_topi (fun x_5 ex_5 => ?_)
    refine lv_sipush (v := 255) hx hb dX9_bytesIn_13 (by decide) ?_
    refine lv_iand hx hb dX9_bytesIn_16 ?_
    refine lv_topi (fun x_6 ex_6 => ?_)
    refine lv_if_eq (tgt := 24) hx hb dX9_bytesIn_17 (by decide) (fun c_7 => ?_) (fun c_7 => ?_)
    · refine lv_iconst (v := 0) hx hb dX9_bytesIn_24 (by decide) ?_
      refine lv_iadd hx hb dX9_bytesIn_25 ?_
      refine lv_topi (fun x_8 ex_8 => ?_)
      obtain rfl : x_8 = 0 := ex_8.trans (by first | rfl | decide)
      refine lv_istore_n (lv' := [(1, .int 0), (2, .int 16), (0, .int p0)]) hx hb dX9_bytesIn_26 rfl hl (by decide) rfl (fun ls hl => ?_)
      refine lv_iinc (v := 8) (lv' := [(2, .int 8), (1, .int 0), (0, .int p0)]) hx hb dX9_bytesIn_27 hl (k := 1) rfl (by decide) (by decide) rfl (fun ls hl => ?_)
      refine lv_goto (tgt := 5) hx hb dX9_bytesIn_30 (by decide) ?_
      refine lv_iload_n hx hb dX9_bytesIn_5 rfl (lv_at hl 0 rfl) ?_
      refine lv_if_lt (tgt := 33) hx hb dX9_bytesIn_6 (by decide) (fun c => absurd c (by decide)) (fun _ => ?_)
      refine lv_iload_n hx hb dX9_bytesIn_9 rfl (lv_at hl 1 rfl) ?_
      refine lv_iload_n hx hb dX9_bytesIn_10 rfl (lv_at hl 2 rfl) ?_
      refine lv_iload_n hx hb dX9_bytesIn_11 rfl (lv_at hl 0 rfl) ?_
      refine lv_ishr hx hb dX9_bytesIn_12 ?_
      refine lv_topi (fun x_9 ex_9 => ?_)
      refine lv_sipush (v := 255) hx hb dX9_bytesIn_13 (by decide) ?_
      refine lv_iand hx hb dX9_bytesIn_16 ?_
      refine lv_topi (fun x_10 ex_10 => ?_)
      refine lv_if_eq (tgt := 24) hx hb dX9_bytesIn_17 (by decide) (fun c_11 => ?_) (fun c_11 => ?_)
      · refine lv_iconst (v := 0) hx hb dX9_bytesIn_24 (by decide) ?_
        refine lv_iadd hx hb dX9_bytesIn_25 ?_
        refine lv_topi (fun x_12 ex_12 => ?_)
        obtain rfl : x_12 = 0 := ex_12.trans (by first | rfl | decide)
        refine lv_istore_n (lv' := [(1, .int 0), (2, .int 8), (0, .int p0)]) hx hb dX9_bytesIn_26 rfl hl (by decide) rfl (fun ls hl => ?_)
        refine lv_iinc (v := 0) (lv' := [(2, .int 0), (1, .int 0), (0, .int p0)]) hx hb dX9_bytesIn_27 hl (k := 1) rfl (by decide) (by decide) rfl (fun ls hl => ?_)
        refine lv_goto (tgt := 5) hx hb dX9_bytesIn_30 (by decide) ?_
        refine lv_iload_n hx hb dX9_bytesIn_5 rfl (lv_at hl 0 rfl) ?_
        refine lv_if_lt (tgt := 33) hx hb dX9_bytesIn_6 (by decide) (fun c => absurd c (by decide)) (fun _ => ?_)
        refine lv_iload_n hx hb dX9_bytesIn_9 rfl (lv_at hl 1 rfl) ?_
        refine lv_iload_n hx hb dX9_bytesIn_10 rfl (lv_at hl 2 rfl) ?_
        refine lv_iload_n hx hb dX9_bytesIn_11 rfl (lv_at hl 0 rfl) ?_
        refine lv_ishr hx hb dX9_bytesIn_12 ?_
        refine lv_topi (fun x_13 ex_13 => ?_)
        refine lv_sipush (v := 255) hx hb dX9_bytesIn_13 (by decide) ?_
        refine lv_iand hx hb dX9_bytesIn_16 ?_
        refine lv_topi (fun x_14 ex_14 => ?_)
        refine lv_if_eq (tgt := 24) hx hb dX9_bytesIn_17 (by decide) (fun c_15 => ?_) (fun c_15 => ?_)
        · refine lv_iconst (v := 0) hx hb dX9_bytesIn_24 (by decide) ?_
          refine lv_iadd hx hb dX9_bytesIn_25 ?_
          refine lv_topi (fun x_16 ex_16 => ?_)
          obtain rfl : x_16 = 0 := ex_16.trans (by first | rfl | decide)
          refine lv_istore_n (lv' := [(1, .int 0), (2, .int 0), (0, .int p0)]) hx hb dX9_bytesIn_26 rfl hl (by decide) rfl (fun ls hl => ?_)
          refine lv_iinc (v := (-8)) (lv' := [(2, .int (-8)), (1, .int 0), (0, .int p0)]) hx hb dX9_bytesIn_27 hl (k := 1) rfl (by decide) (by decide) rfl (fun ls hl => ?_)
          refine lv_goto (tgt := 5) hx hb dX9_bytesIn_30 (by decide) ?_
          refine lv_iload_n hx hb dX9_bytesIn_5 rfl (lv_at hl 0 rfl) ?_
          refine lv_if_lt (tgt := 33) hx hb dX9_bytesIn_6 (by decide) (fun _ => ?_) (fun c => absurd (by decide) c)
          refine lv_iload_n hx hb dX9_bytesIn_33 rfl (lv_at hl 1 rfl) ?_
          refine W.widen (k := 0) (n := 0) (Nat.le_of_ble_eq_true rfl) (Nat.le_of_ble_eq_true rfl) ?_
          exact W.iret (v := 0) hx hb hr (fun t ht hW => ⟨⟨0, (), rfl, (by
              have h24 : sp_by p0 24 = 0 := if_pos (by rw [← ex_1, ← ex_2]; exact c_3)
              have h16 : sp_by p0 16 = 0 := if_pos (by rw [← ex_5, ← ex_6]; exact c_7)
              have h8 : sp_by p0 8 = 0 := if_pos (by rw [← ex_9, ← ex_10]; exact c_11)
              have h0 : sp_by p0 0 = 0 := if_pos (by rw [← ex_13, ← ex_14]; exact c_15)
              show (0 : Int32) = nI (sp_cnt p0)
              unfold sp_cnt
              rw [h24, h16, h8, h0]
              rfl), trivial⟩, hS.F ht⟩) hS.2.2 dX9_bytesIn_34
        · refine lv_iconst (v := 1) hx hb dX9_bytesIn_20 (by decide) ?_
          refine lv_goto (tgt := 25) hx hb dX9_bytesIn_21 (by decide) ?_
          refine lv_iadd hx hb dX9_bytesIn_25 ?_
          refine lv_topi (fun x_17 ex_17 => ?_)
          obtain rfl : x_17 = 1 := ex_17.trans (by first | rfl | decide)
          refine lv_istore_n (lv' := [(1, .int 1), (2, .int 0), (0, .int p0)]) hx hb dX9_bytesIn_26 rfl hl (by decide) rfl (fun ls hl => ?_)
          refine lv_iinc (v := (-8)) (lv' := [(2, .int (-8)), (1, .int 1), (0, .int p0)]) hx hb dX9_bytesIn_27 hl (k := 1) rfl (by decide) (by decide) rfl (fun ls hl => ?_)
          refine lv_goto (tgt := 5) hx hb dX9_bytesIn_30 (by decide) ?_
          refine lv_iload_n hx hb dX9_bytesIn_5 rfl (lv_at hl 0 rfl) ?_
          refine lv_if_lt (tgt := 33) hx hb dX9_bytesIn_6 (by decide) (fun _ => ?_) (fun c => absurd (by decide) c)
          refine lv_iload_n hx hb dX9_bytesIn_33 rfl (lv_at hl 1 rfl) ?_
          refine W.widen (k := 0) (n := 0) (Nat.le_of_ble_eq_true rfl) (Nat.le_of_ble_eq_true rfl) ?_
          exact W.iret (v := 1) hx hb hr (fun t ht hW => ⟨⟨1, (), rfl, (by
              have h24 : sp_by p0 24 = 0 := if_pos (by rw [← ex_1, ← ex_2]; exact c_3)
              have h16 : sp_by p0 16 = 0 := if_pos (by rw [← ex_5, ← ex_6]; exact c_7)
              have h8 : sp_by p0 8 = 0 := if_pos (by rw [← ex_9, ← ex_10]; exact c_11)
              have h0 : sp_by p0 0 = 1 := if_neg (by rw [← ex_13, ← ex_14]; exact c_15)
              show (1 : Int32) = nI (sp_cnt p0)
              unfold sp_cnt
              rw [h24, h16, h8, h0]
              rfl), trivial⟩, hS.F ht⟩) hS.2.2 dX9_bytesIn_34
      · refine lv_iconst (v := 1) hx hb dX9_bytesIn_20 (by decide) ?_
        refine lv_goto (tgt := 25) hx hb dX9_bytesIn_21 (by decide) ?_
        refine lv_iadd hx hb dX9_bytesIn_25 ?_
        refine lv_topi (fun x_18 ex_18 => ?_)
        obtain rfl : x_18 = 1 := ex_18.trans (by first | rfl | decide)
        refine lv_istore_n (lv' := [(1, .int 1), (2, .int 8), (0, .int p0)]) hx hb dX9_bytesIn_26 rfl hl (by decide) rfl (fun ls hl => ?_)
        refine lv_iinc (v := 0) (lv' := [(2, .int 0), (1, .int 1), (0, .int p0)]) hx hb dX9_bytesIn_27 hl (k := 1) rfl (by decide) (by decide) rfl (fun ls hl => ?_)
        refine lv_goto (tgt := 5) hx hb dX9_bytesIn_30 (by decide) ?_
        refine lv_iload_n hx hb dX9_bytesIn_5 rfl (lv_at hl 0 rfl) ?_
        refine lv_if_lt (tgt := 33) hx hb dX9_bytesIn_6 (by decide) (fun c => absurd c (by decide)) (fun _ => ?_)
        refine lv_iload_n hx hb dX9_bytesIn_9 rfl (lv_at hl 1 rfl) ?_
        refine lv_iload_n hx hb dX9_bytesIn_10 rfl (lv_at hl 2 rfl) ?_
        refine lv_iload_n hx hb dX9_bytesIn_11 rfl (lv_at hl 0 rfl) ?_
        refine lv_ishr hx hb dX9_bytesIn_12 ?_
        refine lv_topi (fun x_19 ex_19 => ?_)
        refine lv_sipush (v := 255) hx hb dX9_bytesIn_13 (by decide) ?_
        refine lv_iand hx hb dX9_bytesIn_16 ?_
        refine lv_topi (fun x_20 ex_20 => ?_)
        refine lv_if_eq (tgt := 24) hx hb dX9_bytesIn_17 (by decide) (fun c_21 => ?_) (fun c_21 => ?_)
        · refine lv_iconst (v := 0) hx hb dX9_bytesIn_24 (by decide) ?_
          refine lv_iadd hx hb dX9_bytesIn_25 ?_
          refine lv_topi (fun x_22 ex_22 => ?_)
          obtain rfl : x_22 = 1 := ex_22.trans (by first | rfl | decide)
          refine lv_istore_n (lv' := [(1, .int 1), (2, .int 0), (0, .int p0)]) hx hb dX9_bytesIn_26 rfl hl (by decide) rfl (fun ls hl => ?_)
          refine lv_iinc (v := (-8)) (lv' := [(2, .int (-8)), (1, .int 1), (0, .int p0)]) hx hb dX9_bytesIn_27 hl (k := 1) rfl (by decide) (by decide) rfl (fun ls hl => ?_)
          refine lv_goto (tgt := 5) hx hb dX9_bytesIn_30 (by decide) ?_
          refine lv_iload_n hx hb dX9_bytesIn_5 rfl (lv_at hl 0 rfl) ?_
          refine lv_if_lt (tgt := 33) hx hb dX9_bytesIn_6 (by decide) (fun _ => ?_) (fun c => absurd (by decide) c)
          refine lv_iload_n hx hb dX9_bytesIn_33 rfl (lv_at hl 1 rfl) ?_
          refine W.widen (k := 0) (n := 0) (Nat.le_of_ble_eq_true rfl) (Nat.le_of_ble_eq_true rfl) ?_
          exact W.iret (v := 1) hx hb hr (fun t ht hW => ⟨⟨1, (), rfl, (by
              have h24 : sp_by p0 24 = 0 := if_pos (by rw [← ex_1, ← ex_2]; exact c_3)
              have h16 : sp_by p0 16 = 0 := if_pos (by rw [← ex_5, ← ex_6]; exact c_7)
              have h8 : sp_by p0 8 = 1 := if_neg (by rw [← ex_9, ← ex_10]; exact c_11)
              have h0 : sp_by p0 0 = 0 := if_pos (by rw [← ex_19, ← ex_20]; exact c_21)
              show (1 : Int32) = nI (sp_cnt p0)
              unfold sp_cnt
              rw [h24, h16, h8, h0]
              rfl), trivial⟩, hS.F ht⟩) hS.2.2 dX9_bytesIn_34
        · refine lv_iconst (v := 1) hx hb dX9_bytesIn_20 (by decide) ?_
          refine lv_goto (tgt := 25) hx hb dX9_bytesIn_21 (by decide) ?_
          refine lv_iadd hx hb dX9_bytesIn_25 ?_
          refine lv_topi (fun x_23 ex_23 => ?_)
          obtain rfl : x_23 = 2 := ex_23.trans (by first | rfl | decide)
          refine lv_istore_n (lv' := [(1, .int 2), (2, .int 0), (0, .int p0)]) hx hb dX9_bytesIn_26 rfl hl (by decide) rfl (fun ls hl => ?_)
          refine lv_iinc (v := (-8)) (lv' := [(2, .int (-8)), (1, .int 2), (0, .int p0)]) hx hb dX9_bytesIn_27 hl (k := 1) rfl (by decide) (by decide) rfl (fun ls hl => ?_)
          refine lv_goto (tgt := 5) hx hb dX9_bytesIn_30 (by decide) ?_
          refine lv_iload_n hx hb dX9_bytesIn_5 rfl (lv_at hl 0 rfl) ?_
          refine lv_if_lt (tgt := 33) hx hb dX9_bytesIn_6 (by decide) (fun _ => ?_) (fun c => absurd (by decide) c)
          refine lv_iload_n hx hb dX9_bytesIn_33 rfl (lv_at hl 1 rfl) ?_
          refine W.widen (k := 0) (n := 0) (Nat.le_of_ble_eq_true rfl) (Nat.le_of_ble_eq_true rfl) ?_
          exact W.iret (v := 2) hx hb hr (fun t ht hW => ⟨⟨2, (), rfl, (by
              have h24 : sp_by p0 24 = 0 := if_pos (by rw [← ex_1, ← ex_2]; exact c_3)
              have h16 : sp_by p0 16 = 0 := if_pos (by rw [← ex_5, ← ex_6]; exact c_7)
              have h8 : sp_by p0 8 = 1 := if_neg (by rw [← ex_9, ← ex_10]; exact c_11)
              have h0 : sp_by p0 0 = 1 := if_neg (by rw [← ex_19, ← ex_20]; exact c_21)
              show (2 : Int32) = nI (sp_cnt p0)
              unfold sp_cnt
              rw [h24, h16, h8, h0]
              rfl), trivial⟩, hS.F ht⟩) hS.2.2 dX9_bytesIn_34
    · refine lv_iconst (v := 1) hx hb dX9_bytesIn_20 (by decide) ?_
      refine lv_goto (tgt := 25) hx hb dX9_bytesIn_21 (by decide) ?_
      refine lv_iadd hx hb dX9_bytesIn_25 ?_
      refine lv_topi (fun x_24 ex_24 => ?_)
      obtain rfl : x_24 = 1 := ex_24.trans (by first | rfl | decide)
      refine lv_istore_n (lv' := [(1, .int 1), (2, .int 16), (0, .int p0)]) hx hb dX9_bytesIn_26 rfl hl (by decide) rfl (fun ls hl => ?_)
      refine lv_iinc (v := 8) (lv' := [(2, .int 8), (1, .int 1), (0, .int p0)]) hx hb dX9_bytesIn_27 hl (k := 1) rfl (by decide) (by decide) rfl (fun ls hl => ?_)
      refine lv_goto (tgt := 5) hx hb dX9_bytesIn_30 (by decide) ?_
      refine lv_iload_n hx hb dX9_bytesIn_5 rfl (lv_at hl 0 rfl) ?_
      refine lv_if_lt (tgt := 33) hx hb dX9_bytesIn_6 (by decide) (fun c => absurd c (by decide)) (fun _ => ?_)
      refine lv_iload_n hx hb dX9_bytesIn_9 rfl (lv_at hl 1 rfl) ?_
      refine lv_iload_n hx hb dX9_bytesIn_10 rfl (lv_at hl 2 rfl) ?_
      refine lv_iload_n hx hb dX9_bytesIn_11 rfl (lv_at hl 0 rfl) ?_
      refine lv_ishr hx hb dX9_bytesIn_12 ?_
      refine lv_topi (fun x_25 ex_25 => ?_)
      refine lv_sipush (v := 255) hx hb dX9_bytesIn_13 (by decide) ?_
      refine lv_iand hx hb dX9_bytesIn_16 ?_
      refine lv_topi (fun x_26 ex_26 => ?_)
      refine lv_if_eq (tgt := 24) hx hb dX9_bytesIn_17 (by decide) (fun c_27 => ?_) (fun c_27 => ?_)
      · refine lv_iconst (v := 0) hx hb dX9_bytesIn_24 (by decide) ?_
        refine lv_iadd hx hb dX9_bytesIn_25 ?_
        refine lv_topi (fun x_28 ex_28 => ?_)
        obtain rfl : x_28 = 1 := ex_28.trans (by first | rfl | decide)
        refine lv_istore_n (lv' := [(1, .int 1), (2, .int 8), (0, .int p0)]) hx hb dX9_bytesIn_26 rfl hl (by decide) rfl (fun ls hl => ?_)
        refine lv_iinc (v := 0) (lv' := [(2, .int 0), (1, .int 1), (0, .int p0)]) hx hb dX9_bytesIn_27 hl (k := 1) rfl (by decide) (by decide) rfl (fun ls hl => ?_)
        refine lv_goto (tgt := 5) hx hb dX9_bytesIn_30 (by decide) ?_
        refine lv_iload_n hx hb dX9_bytesIn_5 rfl (lv_at hl 0 rfl) ?_
        refine lv_if_lt (tgt := 33) hx hb dX9_bytesIn_6 (by decide) (fun c => absurd c (by decide)) (fun _ => ?_)
        refine lv_iload_n hx hb dX9_bytesIn_9 rfl (lv_at hl 1 rfl) ?_
        refine lv_iload_n hx hb dX9_bytesIn_10 rfl (lv_at hl 2 rfl) ?_
        refine lv_iload_n hx hb dX9_bytesIn_11 rfl (lv_at hl 0 rfl) ?_
        refine lv_ishr hx hb dX9_bytesIn_12 ?_
        refine lv_topi (fun x_29 ex_29 => ?_)
        refine lv_sipush (v := 255) hx hb dX9_bytesIn_13 (by decide) ?_
        refine lv_iand hx hb dX9_bytesIn_16 ?_
        refine lv_topi (fun x_30 ex_30 => ?_)
        refine lv_if_eq (tgt := 24) hx hb dX9_bytesIn_17 (by decide) (fun c_31 => ?_) (fun c_31 => ?_)
        · refine lv_iconst (v := 0) hx hb dX9_bytesIn_24 (by decide) ?_
          refine lv_iadd hx hb dX9_bytesIn_25 ?_
          refine lv_topi (fun x_32 ex_32 => ?_)
          obtain rfl : x_32 = 1 := ex_32.trans (by first | rfl | decide)
          refine lv_istore_n (lv' := [(1, .int 1), (2, .int 0), (0, .int p0)]) hx hb dX9_bytesIn_26 rfl hl (by decide) rfl (fun ls hl => ?_)
          refine lv_iinc (v := (-8)) (lv' := [(2, .int (-8)), (1, .int 1), (0, .int p0)]) hx hb dX9_bytesIn_27 hl (k := 1) rfl (by decide) (by decide) rfl (fun ls hl => ?_)
          refine lv_goto (tgt := 5) hx hb dX9_bytesIn_30 (by decide) ?_
          refine lv_iload_n hx hb dX9_bytesIn_5 rfl (lv_at hl 0 rfl) ?_
          refine lv_if_lt (tgt := 33) hx hb dX9_bytesIn_6 (by decide) (fun _ => ?_) (fun c => absurd (by decide) c)
          refine lv_iload_n hx hb dX9_bytesIn_33 rfl (lv_at hl 1 rfl) ?_
          refine W.widen (k := 0) (n := 0) (Nat.le_of_ble_eq_true rfl) (Nat.le_of_ble_eq_true rfl) ?_
          exact W.iret (v := 1) hx hb hr (fun t ht hW => ⟨⟨1, (), rfl, (by
              have h24 : sp_by p0 24 = 0 := if_pos (by rw [← ex_1, ← ex_2]; exact c_3)
              have h16 : sp_by p0 16 = 1 := if_neg (by rw [← ex_5, ← ex_6]; exact c_7)
              have h8 : sp_by p0 8 = 0 := if_pos (by rw [← ex_25, ← ex_26]; exact c_27)
              have h0 : sp_by p0 0 = 0 := if_pos (by rw [← ex_29, ← ex_30]; exact c_31)
              show (1 : Int32) = nI (sp_cnt p0)
              unfold sp_cnt
              rw [h24, h16, h8, h0]
              rfl), trivial⟩, hS.F ht⟩) hS.2.2 dX9_bytesIn_34
        · refine lv_iconst (v := 1) hx hb dX9_bytesIn_20 (by decide) ?_
          refine lv_goto (tgt := 25) hx hb dX9_bytesIn_21 (by decide) ?_
          refine lv_iadd hx hb dX9_bytesIn_25 ?_
          refine lv_topi (fun x_33 ex_33 => ?_)
          obtain rfl : x_33 = 2 := ex_33.trans (by first | rfl | decide)
          refine lv_istore_n (lv' := [(1, .int 2), (2, .int 0), (0, .int p0)]) hx hb dX9_bytesIn_26 rfl hl (by decide) rfl (fun ls hl => ?_)
          refine lv_iinc (v := (-8)) (lv' := [(2, .int (-8)), (1, .int 2), (0, .int p0)]) hx hb dX9_bytesIn_27 hl (k := 1) rfl (by decide) (by decide) rfl (fun ls hl => ?_)
          refine lv_goto (tgt := 5) hx hb dX9_bytesIn_30 (by decide) ?_
          refine lv_iload_n hx hb dX9_bytesIn_5 rfl (lv_at hl 0 rfl) ?_
          refine lv_if_lt (tgt := 33) hx hb dX9_bytesIn_6 (by decide) (fun _ => ?_) (fun c => absurd (by decide) c)
          refine lv_iload_n hx hb dX9_bytesIn_33 rfl (lv_at hl 1 rfl) ?_
          refine W.widen (k := 0) (n := 0) (Nat.le_of_ble_eq_true rfl) (Nat.le_of_ble_eq_true rfl) ?_
          exact W.iret (v := 2) hx hb hr (fun t ht hW => ⟨⟨2, (), rfl, (by
              have h24 : sp_by p0 24 = 0 := if_pos (by rw [← ex_1, ← ex_2]; exact c_3)
              have h16 : sp_by p0 16 = 1 := if_neg (by rw [← ex_5, ← ex_6]; exact c_7)
              have h8 : sp_by p0 8 = 0 := if_pos (by rw [← ex_25, ← ex_26]; exact c_27)
              have h0 : sp_by p0 0 = 1 := if_neg (by rw [← ex_29, ← ex_30]; exact c_31)
              show (2 : Int32) = nI (sp_cnt p0)
              unfold sp_cnt
              rw [h24, h16, h8, h0]
              rfl), trivial⟩, hS.F ht⟩) hS.2.2 dX9_bytesIn_34
      · refine lv_iconst (v := 1) hx hb dX9_bytesIn_20 (by decide) ?_
        refine lv_goto (tgt := 25) hx hb dX9_bytesIn_21 (by decide) ?_
        refine lv_iadd hx hb dX9_bytesIn_25 ?_
        refine lv_topi (fun x_34 ex_34 => ?_)
        obtain rfl : x_34 = 2 := ex_34.trans (by first | rfl | decide)
        refine lv_istore_n (lv' := [(1, .int 2), (2, .int 8), (0, .int p0)]) hx hb dX9_bytesIn_26 rfl hl (by decide) rfl (fun ls hl => ?_)
        refine lv_iinc (v := 0) (lv' := [(2, .int 0), (1, .int 2), (0, .int p0)]) hx hb dX9_bytesIn_27 hl (k := 1) rfl (by decide) (by decide) rfl (fun ls hl => ?_)
        refine lv_goto (tgt := 5) hx hb dX9_bytesIn_30 (by decide) ?_
        refine lv_iload_n hx hb dX9_bytesIn_5 rfl (lv_at hl 0 rfl) ?_
        refine lv_if_lt (tgt := 33) hx hb dX9_bytesIn_6 (by decide) (fun c => absurd c (by decide)) (fun _ => ?_)
        refine lv_iload_n hx hb dX9_bytesIn_9 rfl (lv_at hl 1 rfl) ?_
        refine lv_iload_n hx hb dX9_bytesIn_10 rfl (lv_at hl 2 rfl) ?_
        refine lv_iload_n hx hb dX9_bytesIn_11 rfl (lv_at hl 0 rfl) ?_
        refine lv_ishr hx hb dX9_bytesIn_12 ?_
        refine lv_topi (fun x_35 ex_35 => ?_)
        refine lv_sipush (v := 255) hx hb dX9_bytesIn_13 (by decide) ?_
        refine lv_iand hx hb dX9_bytesIn_16 ?_
        refine lv_topi (fun x_36 ex_36 => ?_)
        refine lv_if_eq (tgt := 24) hx hb dX9_bytesIn_17 (by decide) (fun c_37 => ?_) (fun c_37 => ?_)
        · refine lv_iconst (v := 0) hx hb dX9_bytesIn_24 (by decide) ?_
          refine lv_iadd hx hb dX9_bytesIn_25 ?_
          refine lv_topi (fun x_38 ex_38 => ?_)
          obtain rfl : x_38 = 2 := ex_38.trans (by first | rfl | decide)
          refine lv_istore_n (lv' := [(1, .int 2), (2, .int 0), (0, .int p0)]) hx hb dX9_bytesIn_26 rfl hl (by decide) rfl (fun ls hl => ?_)
          refine lv_iinc (v := (-8)) (lv' := [(2, .int (-8)), (1, .int 2), (0, .int p0)]) hx hb dX9_bytesIn_27 hl (k := 1) rfl (by decide) (by decide) rfl (fun ls hl => ?_)
          refine lv_goto (tgt := 5) hx hb dX9_bytesIn_30 (by decide) ?_
          refine lv_iload_n hx hb dX9_bytesIn_5 rfl (lv_at hl 0 rfl) ?_
          refine lv_if_lt (tgt := 33) hx hb dX9_bytesIn_6 (by decide) (fun _ => ?_) (fun c => absurd (by decide) c)
          refine lv_iload_n hx hb dX9_bytesIn_33 rfl (lv_at hl 1 rfl) ?_
          refine W.widen (k := 0) (n := 0) (Nat.le_of_ble_eq_true rfl) (Nat.le_of_ble_eq_true rfl) ?_
          exact W.iret (v := 2) hx hb hr (fun t ht hW => ⟨⟨2, (), rfl, (by
              have h24 : sp_by p0 24 = 0 := if_pos (by rw [← ex_1, ← ex_2]; exact c_3)
              have h16 : sp_by p0 16 = 1 := if_neg (by rw [← ex_5, ← ex_6]; exact c_7)
              have h8 : sp_by p0 8 = 1 := if_neg (by rw [← ex_25, ← ex_26]; exact c_27)
              have h0 : sp_by p0 0 = 0 := if_pos (by rw [← ex_35, ← ex_36]; exact c_37)
              show (2 : Int32) = nI (sp_cnt p0)
              unfold sp_cnt
              rw [h24, h16, h8, h0]
              rfl), trivial⟩, hS.F ht⟩) hS.2.2 dX9_bytesIn_34
        · refine lv_iconst (v := 1) hx hb dX9_bytesIn_20 (by decide) ?_
          refine lv_goto (tgt := 25) hx hb dX9_bytesIn_21 (by decide) ?_
          refine lv_iadd hx hb dX9_bytesIn_25 ?_
          refine lv_topi (fun x_39 ex_39 => ?_)
          obtain rfl : x_39 = 3 := ex_39.trans (by first | rfl | decide)
          refine lv_istore_n (lv' := [(1, .int 3), (2, .int 0), (0, .int p0)]) hx hb dX9_bytesIn_26 rfl hl (by decide) rfl (fun ls hl => ?_)
          refine lv_iinc (v := (-8)) (lv' := [(2, .int (-8)), (1, .int 3), (0, .int p0)]) hx hb dX9_bytesIn_27 hl (k := 1) rfl (by decide) (by decide) rfl (fun ls hl => ?_)
          refine lv_goto (tgt := 5) hx hb dX9_bytesIn_30 (by decide) ?_
          refine lv_iload_n hx hb dX9_bytesIn_5 rfl (lv_at hl 0 rfl) ?_
          refine lv_if_lt (tgt := 33) hx hb dX9_bytesIn_6 (by decide) (fun _ => ?_) (fun c => absurd (by decide) c)
          refine lv_iload_n hx hb dX9_bytesIn_33 rfl (lv_at hl 1 rfl) ?_
          refine W.widen (k := 0) (n := 0) (Nat.le_of_ble_eq_true rfl) (Nat.le_of_ble_eq_true rfl) ?_
          exact W.iret (v := 3) hx hb hr (fun t ht hW => ⟨⟨3, (), rfl, (by
              have h24 : sp_by p0 24 = 0 := if_pos (by rw [← ex_1, ← ex_2]; exact c_3)
              have h16 : sp_by p0 16 = 1 := if_neg (by rw [← ex_5, ← ex_6]; exact c_7)
              have h8 : sp_by p0 8 = 1 := if_neg (by rw [← ex_25, ← ex_26]; exact c_27)
              have h0 : sp_by p0 0 = 1 := if_neg (by rw [← ex_35, ← ex_36]; exact c_37)
              show (3 : Int32) = nI (sp_cnt p0)
              unfold sp_cnt
              rw [h24, h16, h8, h0]
              rfl), trivial⟩, hS.F ht⟩) hS.2.2 dX9_bytesIn_34
  · refine lv_iconst (v := 1) hx hb dX9_bytesIn_20 (by decide) ?_
    refine lv_goto (tgt := 25) hx hb dX9_bytesIn_21 (by decide) ?_
    refine lv_iadd hx hb dX9_bytesIn_25 ?_
    refine lv_topi (fun x_40 ex_40 => ?_)
    obtain rfl : x_40 = 1 := ex_40.trans (by first | rfl | decide)
    refine lv_istore_n (lv' := [(1, .int 1), (2, .int 24), (0, .int p0)]) hx hb dX9_bytesIn_26 rfl hl (by decide) rfl (fun ls hl => ?_)
    refine lv_iinc (v := 16) (lv' := [(2, .int 16), (1, .int 1), (0, .int p0)]) hx hb dX9_bytesIn_27 hl (k := 1) rfl (by decide) (by decide) rfl (fun ls hl => ?_)
    refine lv_goto (tgt := 5) hx hb dX9_bytesIn_30 (by decide) ?_
    refine lv_iload_n hx hb dX9_bytesIn_5 rfl (lv_at hl 0 rfl) ?_
    refine lv_if_lt (tgt := 33) hx hb dX9_bytesIn_6 (by decide) (fun c => absurd c (by decide)) (fun _ => ?_)
    refine lv_iload_n hx hb dX9_bytesIn_9 rfl (lv_at hl 1 rfl) ?_
    refine lv_iload_n hx hb dX9_bytesIn_10 rfl (lv_at hl 2 rfl) ?_
    refine lv_iload_n hx hb dX9_bytesIn_11 rfl (lv_at hl 0 rfl) ?_
    refine lv_ishr hx hb dX9_bytesIn_12 ?_
    refine lv_topi (fun x_41 ex_41 => ?_)
    refine lv_sipush (v := 255) hx hb dX9_bytesIn_13 (by decide) ?_
    refine lv_iand hx hb dX9_bytesIn_16 ?_
    refine lv_topi (fun x_42 ex_42 => ?_)
    refine lv_if_eq (tgt := 24) hx hb dX9_bytesIn_17 (by decide) (fun c_43 => ?_) (fun c_43 => ?_)
    · refine lv_iconst (v := 0) hx hb dX9_bytesIn_24 (by decide) ?_
      refine lv_iadd hx hb dX9_bytesIn_25 ?_
      refine lv_topi (fun x_44 ex_44 => ?_)
      obtain rfl : x_44 = 1 := ex_44.trans (by first | rfl | decide)
      refine lv_istore_n (lv' := [(1, .int 1), (2, .int 16), (0, .int p0)]) hx hb dX9_bytesIn_26 rfl hl (by decide) rfl (fun ls hl => ?_)
      refine lv_iinc (v := 8) (lv' := [(2, .int 8), (1, .int 1), (0, .int p0)]) hx hb dX9_bytesIn_27 hl (k := 1) rfl (by decide) (by decide) rfl (fun ls hl => ?_)
      refine lv_goto (tgt := 5) hx hb dX9_bytesIn_30 (by decide) ?_
      refine lv_iload_n hx hb dX9_bytesIn_5 rfl (lv_at hl 0 rfl) ?_
      refine lv_if_lt (tgt := 33) hx hb dX9_bytesIn_6 (by decide) (fun c => absurd c (by decide)) (fun _ => ?_)
      refine lv_iload_n hx hb dX9_bytesIn_9 rfl (lv_at hl 1 rfl) ?_
      refine lv_iload_n hx hb dX9_bytesIn_10 rfl (lv_at hl 2 rfl) ?_
      refine lv_iload_n hx hb dX9_bytesIn_11 rfl (lv_at hl 0 rfl) ?_
      refine lv_ishr hx hb dX9_bytesIn_12 ?_
      refine lv_topi (fun x_45 ex_45 => ?_)
      refine lv_sipush (v := 255) hx hb dX9_bytesIn_13 (by decide) ?_
      refine lv_iand hx hb dX9_bytesIn_16 ?_
      refine lv_topi (fun x_46 ex_46 => ?_)
      refine lv_if_eq (tgt := 24) hx hb dX9_bytesIn_17 (by decide) (fun c_47 => ?_) (fun c_47 => ?_)
      · refine lv_iconst (v := 0) hx hb dX9_bytesIn_24 (by decide) ?_
        refine lv_iadd hx hb dX9_bytesIn_25 ?_
        refine lv_topi (fun x_48 ex_48 => ?_)
        obtain rfl : x_48 = 1 := ex_48.trans (by first | rfl | decide)
        refine lv_istore_n (lv' := [(1, .int 1), (2, .int 8), (0, .int p0)]) hx hb dX9_bytesIn_26 rfl hl (by decide) rfl (fun ls hl => ?_)
        refine lv_iinc (v := 0) (lv' := [(2, .int 0), (1, .int 1), (0, .int p0)]) hx hb dX9_bytesIn_27 hl (k := 1) rfl (by decide) (by decide) rfl (fun ls hl => ?_)
        refine lv_goto (tgt := 5) hx hb dX9_bytesIn_30 (by decide) ?_
        refine lv_iload_n hx hb dX9_bytesIn_5 rfl (lv_at hl 0 rfl) ?_
        refine lv_if_lt (tgt := 33) hx hb dX9_bytesIn_6 (by decide) (fun c => absurd c (by decide)) (fun _ => ?_)
        refine lv_iload_n hx hb dX9_bytesIn_9 rfl (lv_at hl 1 rfl) ?_
        refine lv_iload_n hx hb dX9_bytesIn_10 rfl (lv_at hl 2 rfl) ?_
        refine lv_iload_n hx hb dX9_bytesIn_11 rfl (lv_at hl 0 rfl) ?_
        refine lv_ishr hx hb dX9_bytesIn_12 ?_
        refine lv_topi (fun x_49 ex_49 => ?_)
        refine lv_sipush (v := 255) hx hb dX9_bytesIn_13 (by decide) ?_
        refine lv_iand hx hb dX9_bytesIn_16 ?_
        refine lv_topi (fun x_50 ex_50 => ?_)
        refine lv_if_eq (tgt := 24) hx hb dX9_bytesIn_17 (by decide) (fun c_51 => ?_) (fun c_51 => ?_)
        · refine lv_iconst (v := 0) hx hb dX9_bytesIn_24 (by decide) ?_
          refine lv_iadd hx hb dX9_bytesIn_25 ?_
          refine lv_topi (fun x_52 ex_52 => ?_)
          obtain rfl : x_52 = 1 := ex_52.trans (by first | rfl | decide)
          refine lv_istore_n (lv' := [(1, .int 1), (2, .int 0), (0, .int p0)]) hx hb dX9_bytesIn_26 rfl hl (by decide) rfl (fun ls hl => ?_)
          refine lv_iinc (v := (-8)) (lv' := [(2, .int (-8)), (1, .int 1), (0, .int p0)]) hx hb dX9_bytesIn_27 hl (k := 1) rfl (by decide) (by decide) rfl (fun ls hl => ?_)
          refine lv_goto (tgt := 5) hx hb dX9_bytesIn_30 (by decide) ?_
          refine lv_iload_n hx hb dX9_bytesIn_5 rfl (lv_at hl 0 rfl) ?_
          refine lv_if_lt (tgt := 33) hx hb dX9_bytesIn_6 (by decide) (fun _ => ?_) (fun c => absurd (by decide) c)
          refine lv_iload_n hx hb dX9_bytesIn_33 rfl (lv_at hl 1 rfl) ?_
          refine W.widen (k := 0) (n := 0) (Nat.le_of_ble_eq_true rfl) (Nat.le_of_ble_eq_true rfl) ?_
          exact W.iret (v := 1) hx hb hr (fun t ht hW => ⟨⟨1, (), rfl, (by
              have h24 : sp_by p0 24 = 1 := if_neg (by rw [← ex_1, ← ex_2]; exact c_3)
              have h16 : sp_by p0 16 = 0 := if_pos (by rw [← ex_41, ← ex_42]; exact c_43)
              have h8 : sp_by p0 8 = 0 := if_pos (by rw [← ex_45, ← ex_46]; exact c_47)
              have h0 : sp_by p0 0 = 0 := if_pos (by rw [← ex_49, ← ex_50]; exact c_51)
              show (1 : Int32) = nI (sp_cnt p0)
              unfold sp_cnt
              rw [h24, h16, h8, h0]
              rfl), trivial⟩, hS.F ht⟩) hS.2.2 dX9_bytesIn_34
        · refine lv_iconst (v := 1) hx hb dX9_bytesIn_20 (by decide) ?_
          refine lv_goto (tgt := 25) hx hb dX9_bytesIn_21 (by decide) ?_
          refine lv_iadd hx hb dX9_bytesIn_25 ?_
          refine lv_topi (fun x_53 ex_53 => ?_)
          obtain rfl : x_53 = 2 := ex_53.trans (by first | rfl | decide)
          refine lv_istore_n (lv' := [(1, .int 2), (2, .int 0), (0, .int p0)]) hx hb dX9_bytesIn_26 rfl hl (by decide) rfl (fun ls hl => ?_)
          refine lv_iinc (v := (-8)) (lv' := [(2, .int (-8)), (1, .int 2), (0, .int p0)]) hx hb dX9_bytesIn_27 hl (k := 1) rfl (by decide) (by decide) rfl (fun ls hl => ?_)
          refine lv_goto (tgt := 5) hx hb dX9_bytesIn_30 (by decide) ?_
          refine lv_iload_n hx hb dX9_bytesIn_5 rfl (lv_at hl 0 rfl) ?_
          refine lv_if_lt (tgt := 33) hx hb dX9_bytesIn_6 (by decide) (fun _ => ?_) (fun c => absurd (by decide) c)
          refine lv_iload_n hx hb dX9_bytesIn_33 rfl (lv_at hl 1 rfl) ?_
          refine W.widen (k := 0) (n := 0) (Nat.le_of_ble_eq_true rfl) (Nat.le_of_ble_eq_true rfl) ?_
          exact W.iret (v := 2) hx hb hr (fun t ht hW => ⟨⟨2, (), rfl, (by
              have h24 : sp_by p0 24 = 1 := if_neg (by rw [← ex_1, ← ex_2]; exact c_3)
              have h16 : sp_by p0 16 = 0 := if_pos (by rw [← ex_41, ← ex_42]; exact c_43)
              have h8 : sp_by p0 8 = 0 := if_pos (by rw [← ex_45, ← ex_46]; exact c_47)
              have h0 : sp_by p0 0 = 1 := if_neg (by rw [← ex_49, ← ex_50]; exact c_51)
              show (2 : Int32) = nI (sp_cnt p0)
              unfold sp_cnt
              rw [h24, h16, h8, h0]
              rfl), trivial⟩, hS.F ht⟩) hS.2.2 dX9_bytesIn_34
      · refine lv_iconst (v := 1) hx hb dX9_bytesIn_20 (by decide) ?_
        refine lv_goto (tgt := 25) hx hb dX9_bytesIn_21 (by decide) ?_
        refine lv_iadd hx hb dX9_bytesIn_25 ?_
        refine lv_topi (fun x_54 ex_54 => ?_)
        obtain rfl : x_54 = 2 := ex_54.trans (by first | rfl | decide)
        refine lv_istore_n (lv' := [(1, .int 2), (2, .int 8), (0, .int p0)]) hx hb dX9_bytesIn_26 rfl hl (by decide) rfl (fun ls hl => ?_)
        refine lv_iinc (v := 0) (lv' := [(2, .int 0), (1, .int 2), (0, .int p0)]) hx hb dX9_bytesIn_27 hl (k := 1) rfl (by decide) (by decide) rfl (fun ls hl => ?_)
        refine lv_goto (tgt := 5) hx hb dX9_bytesIn_30 (by decide) ?_
        refine lv_iload_n hx hb dX9_bytesIn_5 rfl (lv_at hl 0 rfl) ?_
        refine lv_if_lt (tgt := 33) hx hb dX9_bytesIn_6 (by decide) (fun c => absurd c (by decide)) (fun _ => ?_)
        refine lv_iload_n hx hb dX9_bytesIn_9 rfl (lv_at hl 1 rfl) ?_
        refine lv_iload_n hx hb dX9_bytesIn_10 rfl (lv_at hl 2 rfl) ?_
        refine lv_iload_n hx hb dX9_bytesIn_11 rfl (lv_at hl 0 rfl) ?_
        refine lv_ishr hx hb dX9_bytesIn_12 ?_
        refine lv_topi (fun x_55 ex_55 => ?_)
        refine lv_sipush (v := 255) hx hb dX9_bytesIn_13 (by decide) ?_
        refine lv_iand hx hb dX9_bytesIn_16 ?_
        refine lv_topi (fun x_56 ex_56 => ?_)
        refine lv_if_eq (tgt := 24) hx hb dX9_bytesIn_17 (by decide) (fun c_57 => ?_) (fun c_57 => ?_)
        · refine lv_iconst (v := 0) hx hb dX9_bytesIn_24 (by decide) ?_
          refine lv_iadd hx hb dX9_bytesIn_25 ?_
          refine lv_topi (fun x_58 ex_58 => ?_)
          obtain rfl : x_58 = 2 := ex_58.trans (by first | rfl | decide)
          refine lv_istore_n (lv' := [(1, .int 2), (2, .int 0), (0, .int p0)]) hx hb dX9_bytesIn_26 rfl hl (by decide) rfl (fun ls hl => ?_)
          refine lv_iinc (v := (-8)) (lv' := [(2, .int (-8)), (1, .int 2), (0, .int p0)]) hx hb dX9_bytesIn_27 hl (k := 1) rfl (by decide) (by decide) rfl (fun ls hl => ?_)
          refine lv_goto (tgt := 5) hx hb dX9_bytesIn_30 (by decide) ?_
          refine lv_iload_n hx hb dX9_bytesIn_5 rfl (lv_at hl 0 rfl) ?_
          refine lv_if_lt (tgt := 33) hx hb dX9_bytesIn_6 (by decide) (fun _ => ?_) (fun c => absurd (by decide) c)
          refine lv_iload_n hx hb dX9_bytesIn_33 rfl (lv_at hl 1 rfl) ?_
          refine W.widen (k := 0) (n := 0) (Nat.le_of_ble_eq_true rfl) (Nat.le_of_ble_eq_true rfl) ?_
          exact W.iret (v := 2) hx hb hr (fun t ht hW => ⟨⟨2, (), rfl, (by
              have h24 : sp_by p0 24 = 1 := if_neg (by rw [← ex_1, ← ex_2]; exact c_3)
              have h16 : sp_by p0 16 = 0 := if_pos (by rw [← ex_41, ← ex_42]; exact c_43)
              have h8 : sp_by p0 8 = 1 := if_neg (by rw [← ex_45, ← ex_46]; exact c_47)
              have h0 : sp_by p0 0 = 0 := if_pos (by rw [← ex_55, ← ex_56]; exact c_57)
              show (2 : Int32) = nI (sp_cnt p0)
              unfold sp_cnt
              rw [h24, h16, h8, h0]
              rfl), trivial⟩, hS.F ht⟩) hS.2.2 dX9_bytesIn_34
        · refine lv_iconst (v := 1) hx hb dX9_bytesIn_20 (by decide) ?_
          refine lv_goto (tgt := 25) hx hb dX9_bytesIn_21 (by decide) ?_
          refine lv_iadd hx hb dX9_bytesIn_25 ?_
          refine lv_topi (fun x_59 ex_59 => ?_)
          obtain rfl : x_59 = 3 := ex_59.trans (by first | rfl | decide)
          refine lv_istore_n (lv' := [(1, .int 3), (2, .int 0), (0, .int p0)]) hx hb dX9_bytesIn_26 rfl hl (by decide) rfl (fun ls hl => ?_)
          refine lv_iinc (v := (-8)) (lv' := [(2, .int (-8)), (1, .int 3), (0, .int p0)]) hx hb dX9_bytesIn_27 hl (k := 1) rfl (by decide) (by decide) rfl (fun ls hl => ?_)
          refine lv_goto (tgt := 5) hx hb dX9_bytesIn_30 (by decide) ?_
          refine lv_iload_n hx hb dX9_bytesIn_5 rfl (lv_at hl 0 rfl) ?_
          refine lv_if_lt (tgt := 33) hx hb dX9_bytesIn_6 (by decide) (fun _ => ?_) (fun c => absurd (by decide) c)
          refine lv_iload_n hx hb dX9_bytesIn_33 rfl (lv_at hl 1 rfl) ?_
          refine W.widen (k := 0) (n := 0) (Nat.le_of_ble_eq_true rfl) (Nat.le_of_ble_eq_true rfl) ?_
          exact W.iret (v := 3) hx hb hr (fun t ht hW => ⟨⟨3, (), rfl, (by
              have h24 : sp_by p0 24 = 1 := if_neg (by rw [← ex_1, ← ex_2]; exact c_3)
              have h16 : sp_by p0 16 = 0 := if_pos (by rw [← ex_41, ← ex_42]; exact c_43)
              have h8 : sp_by p0 8 = 1 := if_neg (by rw [← ex_45, ← ex_46]; exact c_47)
              have h0 : sp_by p0 0 = 1 := if_neg (by rw [← ex_55, ← ex_56]; exact c_57)
              show (3 : Int32) = nI (sp_cnt p0)
              unfold sp_cnt
              rw [h24, h16, h8, h0]
              rfl), trivial⟩, hS.F ht⟩) hS.2.2 dX9_bytesIn_34
    · refine lv_iconst (v := 1) hx hb dX9_bytesIn_20 (by decide) ?_
      refine lv_goto (tgt := 25) hx hb dX9_bytesIn_21 (by decide) ?_
      refine lv_iadd hx hb dX9_bytesIn_25 ?_
      refine lv_topi (fun x_60 ex_60 => ?_)
      obtain rfl : x_60 = 2 := ex_60.trans (by first | rfl | decide)
      refine lv_istore_n (lv' := [(1, .int 2), (2, .int 16), (0, .int p0)]) hx hb dX9_bytesIn_26 rfl hl (by decide) rfl (fun ls hl => ?_)
      refine lv_iinc (v := 8) (lv' := [(2, .int 8), (1, .int 2), (0, .int p0)]) hx hb dX9_bytesIn_27 hl (k := 1) rfl (by decide) (by decide) rfl (fun ls hl => ?_)
      refine lv_goto (tgt := 5) hx hb dX9_bytesIn_30 (by decide) ?_
      refine lv_iload_n hx hb dX9_bytesIn_5 rfl (lv_at hl 0 rfl) ?_
      refine lv_if_lt (tgt := 33) hx hb dX9_bytesIn_6 (by decide) (fun c => absurd c (by decide)) (fun _ => ?_)
      refine lv_iload_n hx hb dX9_bytesIn_9 rfl (lv_at hl 1 rfl) ?_
      refine lv_iload_n hx hb dX9_bytesIn_10 rfl (lv_at hl 2 rfl) ?_
      refine lv_iload_n hx hb dX9_bytesIn_11 rfl (lv_at hl 0 rfl) ?_
      refine lv_ishr hx hb dX9_bytesIn_12 ?_
      refine lv_topi (fun x_61 ex_61 => ?_)
      refine lv_sipush (v := 255) hx hb dX9_bytesIn_13 (by decide) ?_
      refine lv_iand hx hb dX9_bytesIn_16 ?_
      refine lv_topi (fun x_62 ex_62 => ?_)
      refine lv_if_eq (tgt := 24) hx hb dX9_bytesIn_17 (by decide) (fun c_63 => ?_) (fun c_63 => ?_)
      · refine lv_iconst (v := 0) hx hb dX9_bytesIn_24 (by decide) ?_
        refine lv_iadd hx hb dX9_bytesIn_25 ?_
        refine lv_topi (fun x_64 ex_64 => ?_)
        obtain rfl : x_64 = 2 := ex_64.trans (by first | rfl | decide)
        refine lv_istore_n (lv' := [(1, .int 2), (2, .int 8), (0, .int p0)]) hx hb dX9_bytesIn_26 rfl hl (by decide) rfl (fun ls hl => ?_)
        refine lv_iinc (v := 0) (lv' := [(2, .int 0), (1, .int 2), (0, .int p0)]) hx hb dX9_bytesIn_27 hl (k := 1) rfl (by decide) (by decide) rfl (fun ls hl => ?_)
        refine lv_goto (tgt := 5) hx hb dX9_bytesIn_30 (by decide) ?_
        refine lv_iload_n hx hb dX9_bytesIn_5 rfl (lv_at hl 0 rfl) ?_
        refine lv_if_lt (tgt := 33) hx hb dX9_bytesIn_6 (by decide) (fun c => absurd c (by decide)) (fun _ => ?_)
        refine lv_iload_n hx hb dX9_bytesIn_9 rfl (lv_at hl 1 rfl) ?_
        refine lv_iload_n hx hb dX9_bytesIn_10 rfl (lv_at hl 2 rfl) ?_
        refine lv_iload_n hx hb dX9_bytesIn_11 rfl (lv_at hl 0 rfl) ?_
        refine lv_ishr hx hb dX9_bytesIn_12 ?_
        refine lv_topi (fun x_65 ex_65 => ?_)
        refine lv_sipush (v := 255) hx hb dX9_bytesIn_13 (by decide) ?_
        refine lv_iand hx hb dX9_bytesIn_16 ?_
        refine lv_topi (fun x_66 ex_66 => ?_)
        refine lv_if_eq (tgt := 24) hx hb dX9_bytesIn_17 (by decide) (fun c_67 => ?_) (fun c_67 => ?_)
        · refine lv_iconst (v := 0) hx hb dX9_bytesIn_24 (by decide) ?_
          refine lv_iadd hx hb dX9_bytesIn_25 ?_
          refine lv_topi (fun x_68 ex_68 => ?_)
          obtain rfl : x_68 = 2 := ex_68.trans (by first | rfl | decide)
          refine lv_istore_n (lv' := [(1, .int 2), (2, .int 0), (0, .int p0)]) hx hb dX9_bytesIn_26 rfl hl (by decide) rfl (fun ls hl => ?_)
          refine lv_iinc (v := (-8)) (lv' := [(2, .int (-8)), (1, .int 2), (0, .int p0)]) hx hb dX9_bytesIn_27 hl (k := 1) rfl (by decide) (by decide) rfl (fun ls hl => ?_)
          refine lv_goto (tgt := 5) hx hb dX9_bytesIn_30 (by decide) ?_
          refine lv_iload_n hx hb dX9_bytesIn_5 rfl (lv_at hl 0 rfl) ?_
          refine lv_if_lt (tgt := 33) hx hb dX9_bytesIn_6 (by decide) (fun _ => ?_) (fun c => absurd (by decide) c)
          refine lv_iload_n hx hb dX9_bytesIn_33 rfl (lv_at hl 1 rfl) ?_
          refine W.widen (k := 0) (n := 0) (Nat.le_of_ble_eq_true rfl) (Nat.le_of_ble_eq_true rfl) ?_
          exact W.iret (v := 2) hx hb hr (fun t ht hW => ⟨⟨2, (), rfl, (by
              have h24 : sp_by p0 24 = 1 := if_neg (by rw [← ex_1, ← ex_2]; exact c_3)
              have h16 : sp_by p0 16 = 1 := if_neg (by rw [← ex_41, ← ex_42]; exact c_43)
              have h8 : sp_by p0 8 = 0 := if_pos (by rw [← ex_61, ← ex_62]; exact c_63)
              have h0 : sp_by p0 0 = 0 := if_pos (by rw [← ex_65, ← ex_66]; exact c_67)
              show (2 : Int32) = nI (sp_cnt p0)
              unfold sp_cnt
              rw [h24, h16, h8, h0]
              rfl), trivial⟩, hS.F ht⟩) hS.2.2 dX9_bytesIn_34
        · refine lv_iconst (v := 1) hx hb dX9_bytesIn_20 (by decide) ?_
          refine lv_goto (tgt := 25) hx hb dX9_bytesIn_21 (by decide) ?_
          refine lv_iadd hx hb dX9_bytesIn_25 ?_
          refine lv_topi (fun x_69 ex_69 => ?_)
          obtain rfl : x_69 = 3 := ex_69.trans (by first | rfl | decide)
          refine lv_istore_n (lv' := [(1, .int 3), (2, .int 0), (0, .int p0)]) hx hb dX9_bytesIn_26 rfl hl (by decide) rfl (fun ls hl => ?_)
          refine lv_iinc (v := (-8)) (lv' := [(2, .int (-8)), (1, .int 3), (0, .int p0)]) hx hb dX9_bytesIn_27 hl (k := 1) rfl (by decide) (by decide) rfl (fun ls hl => ?_)
          refine lv_goto (tgt := 5) hx hb dX9_bytesIn_30 (by decide) ?_
          refine lv_iload_n hx hb dX9_bytesIn_5 rfl (lv_at hl 0 rfl) ?_
          refine lv_if_lt (tgt := 33) hx hb dX9_bytesIn_6 (by decide) (fun _ => ?_) (fun c => absurd (by decide) c)
          refine lv_iload_n hx hb dX9_bytesIn_33 rfl (lv_at hl 1 rfl) ?_
          refine W.widen (k := 0) (n := 0) (Nat.le_of_ble_eq_true rfl) (Nat.le_of_ble_eq_true rfl) ?_
          exact W.iret (v := 3) hx hb hr (fun t ht hW => ⟨⟨3, (), rfl, (by
              have h24 : sp_by p0 24 = 1 := if_neg (by rw [← ex_1, ← ex_2]; exact c_3)
              have h16 : sp_by p0 16 = 1 := if_neg (by rw [← ex_41, ← ex_42]; exact c_43)
              have h8 : sp_by p0 8 = 0 := if_pos (by rw [← ex_61, ← ex_62]; exact c_63)
              have h0 : sp_by p0 0 = 1 := if_neg (by rw [← ex_65, ← ex_66]; exact c_67)
              show (3 : Int32) = nI (sp_cnt p0)
              unfold sp_cnt
              rw [h24, h16, h8, h0]
              rfl), trivial⟩, hS.F ht⟩) hS.2.2 dX9_bytesIn_34
      · refine lv_iconst (v := 1) hx hb dX9_bytesIn_20 (by decide) ?_
        refine lv_goto (tgt := 25) hx hb dX9_bytesIn_21 (by decide) ?_
        refine lv_iadd hx hb dX9_bytesIn_25 ?_
        refine lv_topi (fun x_70 ex_70 => ?_)
        obtain rfl : x_70 = 3 := ex_70.trans (by first | rfl | decide)
        refine lv_istore_n (lv' := [(1, .int 3), (2, .int 8), (0, .int p0)]) hx hb dX9_bytesIn_26 rfl hl (by decide) rfl (fun ls hl => ?_)
        refine lv_iinc (v := 0) (lv' := [(2, .int 0), (1, .int 3), (0, .int p0)]) hx hb dX9_bytesIn_27 hl (k := 1) rfl (by decide) (by decide) rfl (fun ls hl => ?_)
        refine lv_goto (tgt := 5) hx hb dX9_bytesIn_30 (by decide) ?_
        refine lv_iload_n hx hb dX9_bytesIn_5 rfl (lv_at hl 0 rfl) ?_
        refine lv_if_lt (tgt := 33) hx hb dX9_bytesIn_6 (by decide) (fun c => absurd c (by decide)) (fun _ => ?_)
        refine lv_iload_n hx hb dX9_bytesIn_9 rfl (lv_at hl 1 rfl) ?_
        refine lv_iload_n hx hb dX9_bytesIn_10 rfl (lv_at hl 2 rfl) ?_
        refine lv_iload_n hx hb dX9_bytesIn_11 rfl (lv_at hl 0 rfl) ?_
        refine lv_ishr hx hb dX9_bytesIn_12 ?_
        refine lv_topi (fun x_71 ex_71 => ?_)
        refine lv_sipush (v := 255) hx hb dX9_bytesIn_13 (by decide) ?_
        refine lv_iand hx hb dX9_bytesIn_16 ?_
        refine lv_topi (fun x_72 ex_72 => ?_)
        refine lv_if_eq (tgt := 24) hx hb dX9_bytesIn_17 (by decide) (fun c_73 => ?_) (fun c_73 => ?_)
        · refine lv_iconst (v := 0) hx hb dX9_bytesIn_24 (by decide) ?_
          refine lv_iadd hx hb dX9_bytesIn_25 ?_
          refine lv_topi (fun x_74 ex_74 => ?_)
          obtain rfl : x_74 = 3 := ex_74.trans (by first | rfl | decide)
          refine lv_istore_n (lv' := [(1, .int 3), (2, .int 0), (0, .int p0)]) hx hb dX9_bytesIn_26 rfl hl (by decide) rfl (fun ls hl => ?_)
          refine lv_iinc (v := (-8)) (lv' := [(2, .int (-8)), (1, .int 3), (0, .int p0)]) hx hb dX9_bytesIn_27 hl (k := 1) rfl (by decide) (by decide) rfl (fun ls hl => ?_)
          refine lv_goto (tgt := 5) hx hb dX9_bytesIn_30 (by decide) ?_
          refine lv_iload_n hx hb dX9_bytesIn_5 rfl (lv_at hl 0 rfl) ?_
          refine lv_if_lt (tgt := 33) hx hb dX9_bytesIn_6 (by decide) (fun _ => ?_) (fun c => absurd (by decide) c)
          refine lv_iload_n hx hb dX9_bytesIn_33 rfl (lv_at hl 1 rfl) ?_
          refine W.widen (k := 0) (n := 0) (Nat.le_of_ble_eq_true rfl) (Nat.le_of_ble_eq_true rfl) ?_
          exact W.iret (v := 3) hx hb hr (fun t ht hW => ⟨⟨3, (), rfl, (by
              have h24 : sp_by p0 24 = 1 := if_neg (by rw [← ex_1, ← ex_2]; exact c_3)
              have h16 : sp_by p0 16 = 1 := if_neg (by rw [← ex_41, ← ex_42]; exact c_43)
              have h8 : sp_by p0 8 = 1 := if_neg (by rw [← ex_61, ← ex_62]; exact c_63)
              have h0 : sp_by p0 0 = 0 := if_pos (by rw [← ex_71, ← ex_72]; exact c_73)
              show (3 : Int32) = nI (sp_cnt p0)
              unfold sp_cnt
              rw [h24, h16, h8, h0]
              rfl), trivial⟩, hS.F ht⟩) hS.2.2 dX9_bytesIn_34
        · refine lv_iconst (v := 1) hx hb dX9_bytesIn_20 (by decide) ?_
          refine lv_goto (tgt := 25) hx hb dX9_bytesIn_21 (by decide) ?_
          refine lv_iadd hx hb dX9_bytesIn_25 ?_
          refine lv_topi (fun x_75 ex_75 => ?_)
          obtain rfl : x_75 = 4 := ex_75.trans (by first | rfl | decide)
          refine lv_istore_n (lv' := [(1, .int 4), (2, .int 0), (0, .int p0)]) hx hb dX9_bytesIn_26 rfl hl (by decide) rfl (fun ls hl => ?_)
          refine lv_iinc (v := (-8)) (lv' := [(2, .int (-8)), (1, .int 4), (0, .int p0)]) hx hb dX9_bytesIn_27 hl (k := 1) rfl (by decide) (by decide) rfl (fun ls hl => ?_)
          refine lv_goto (tgt := 5) hx hb dX9_bytesIn_30 (by decide) ?_
          refine lv_iload_n hx hb dX9_bytesIn_5 rfl (lv_at hl 0 rfl) ?_
          refine lv_if_lt (tgt := 33) hx hb dX9_bytesIn_6 (by decide) (fun _ => ?_) (fun c => absurd (by decide) c)
          refine lv_iload_n hx hb dX9_bytesIn_33 rfl (lv_at hl 1 rfl) ?_
          refine W.widen (k := 0) (n := 0) (Nat.le_of_ble_eq_true rfl) (Nat.le_of_ble_eq_true rfl) ?_
          exact W.iret (v := 4) hx hb hr (fun t ht hW => ⟨⟨4, (), rfl, (by
              have h24 : sp_by p0 24 = 1 := if_neg (by rw [← ex_1, ← ex_2]; exact c_3)
              have h16 : sp_by p0 16 = 1 := if_neg (by rw [← ex_41, ← ex_42]; exact c_43)
              have h8 : sp_by p0 8 = 1 := if_neg (by rw [← ex_61, ← ex_62]; exact c_63)
              have h0 : sp_by p0 0 = 1 := if_neg (by rw [← ex_71, ← ex_72]; exact c_73)
              show (4 : Int32) = nI (sp_cnt p0)
              unfold sp_cnt
              rw [h24, h16, h8, h0]
              rfl), trivial⟩, hS.F ht⟩) hS.2.2 dX9_bytesIn_34
set_option maxHeartbeats 4000000 in
set_option maxRecDepth 100000 in
theorem c_X11_bytesOf (l : Launch) (dC : Nat → ClassId) (dI : Nat → Nat → Nat) (cB cI cJ : ClassId) (sz : Nat) (p0 : Int32) : Met l yX11_bytesOf wsX11_bytesOf ({ frames := 1, cells := 0, slots := 0, locals := 24 }) (va_Pc [.int p0] (fun U => U.heap.size = sz ∧ va_P (dC, dI) vwCl [] U.heap ∧ va_K (dC, dI) vwCl [(cB, .byte), (cI, .int), (cJ, .long)] U ∧ va_D (fun _ => True) [])) (va_Qi (fun (r : Int32) (_ : Unit) => r = nI (sp_cnt p0)) (fun _ _ => True) (va_A [] sz)) 0 0 (va_A [] sz) := by
  refine Met.ofW (cc := cX11_bytesOf) (maxL := 3) (ret := (some .int)) (by decide) rfl ?_
  intro p e s m args below meth c s₁ B hml hv
  obtain ⟨rfl, hsz, hP, hK, hD0⟩ := hv
  have hx := B.exec
  have hb := B.bytes
  have hr := B.returns
  have hts := atoms_spec (ws := wsX11_bytesOf) B.pre
  have hown : s.vm.findClass RX11 = some m.cls := findClass_of_methodNamed B.named
  have hlocks := B.notSynchronized
  subst hsz
  have hD := hD0.self (sz := s.heap.size)
  generalize hAe : va_A [] s.heap.size = A at hD ⊢
  have hA : ∀ q : Nat, s.heap.size ≤ q → A q := fun q h => by rw [← hAe]; exact Or.inr h
  have hS : va_S A s.heap s.heap [] := va_S.rf
  have hP : va_P (dC, dI) vwCl [] s.heap := hP
  have hl := lv_entry ([.int p0]) (n := 3) (Nat.le_of_ble_eq_true rfl)
  rw [lg_entry_eq]
  generalize (lg_sl ([.int p0]) ++ List.replicate (3 - (lg_sl ([.int p0])).length) Slot.unset).toArray = ls at hl ⊢
  have hl : lv_has ls 3 [(0, .int p0)] := hl
  refine lv_iconst (v := 0) hx hb dX11_bytesOf_0 (by decide) ?_
  refine lv_istore_n (lv' := [(1, .int 0), (0, .int p0)]) hx hb dX11_bytesOf_1 rfl hl (by decide) rfl (fun ls hl => ?_)
  refine lv_iconst (v := 0) hx hb dX11_bytesOf_2 (by decide) ?_
  refine lv_istore_n (lv' := [(2, .int 0), (1, .int 0), (0, .int p0)]) hx hb dX11_bytesOf_3 rfl hl (by decide) rfl (fun ls hl => ?_)
  refine lv_iload_n hx hb dX11_bytesOf_4 rfl (lv_at hl 0 rfl) ?_
  refine lv_iconst (v := 4) hx hb dX11_bytesOf_5 (by decide) ?_
  refine lv_icmp_ge (tgt := 36) hx hb dX11_bytesOf_6 (by decide) (fun c => absurd c (by decide)) (fun _ => ?_)
  refine lv_iload_n hx hb dX11_bytesOf_9 rfl (lv_at hl 1 rfl) ?_
  refine lv_iload_n hx hb dX11_bytesOf_10 rfl (lv_at hl 2 rfl) ?_
  refine lv_bipush (v := 8) hx hb dX11_bytesOf_11 (by decide) ?_
  refine lv_iload_n hx hb dX11_bytesOf_13 rfl (lv_at hl 0 rfl) ?_
  refine lv_imul hx hb dX11_bytesOf_14 ?_
  refine lv_topi (fun x_1 ex_1 => ?_)
  obtain rfl : x_1 = 0 := ex_1.trans (by first | rfl | decide)
  refine lv_ishr hx hb dX11_bytesOf_15 ?_
  refine lv_topi (fun x_2 ex_2 => ?_)
  refine lv_sipush (v := 255) hx hb dX11_bytesOf_16 (by decide) ?_
  refine lv_iand hx hb dX11_bytesOf_19 ?_
  refine lv_topi (fun x_3 ex_3 => ?_)
  refine lv_if_ne (tgt := 27) hx hb dX11_bytesOf_20 (by decide) (fun c_4 => ?_) (fun c_4 => ?_)
  · refine lv_iconst (v := 1) hx hb dX11_bytesOf_27 (by decide) ?_
    refine lv_iadd hx hb dX11_bytesOf_28 ?_
    refine lv_topi (fun x_5 ex_5 => ?_)
    obtain rfl : x_5 = 1 := ex_5.trans (by first | rfl | decide)
    refine lv_istore_n (lv' := [(1, .int 1), (2, .int 0), (0, .int p0)]) hx hb dX11_bytesOf_29 rfl hl (by decide) rfl (fun ls hl => ?_)
    refine lv_iinc (v := 1) (lv' := [(2, .int 1), (1, .int 1), (0, .int p0)]) hx hb dX11_bytesOf_30 hl (k := 1) rfl (by decide) (by decide) rfl (fun ls hl => ?_)
    refine lv_goto (tgt := 4) hx hb dX11_bytesOf_33 (by decide) ?_
    refine lv_iload_n hx hb dX11_bytesOf_4 rfl (lv_at hl 0 rfl) ?_
    refine lv_iconst (v := 4) hx hb dX11_bytesOf_5 (by decide) ?_
    refine lv_icmp_ge (tgt := 36) hx hb dX11_bytesOf_6 (by decide) (fun c => absurd c (by decide)) (fun _ => ?_)
    refine lv_iload_n hx hb dX11_bytesOf_9 rfl (lv_at hl 1 rfl) ?_
    refine lv_iload_n hx hb dX11_bytesOf_10 rfl (lv_at hl 2 rfl) ?_
    refine lv_bipush (v := 8) hx hb dX11_bytesOf_11 (by decide) ?_
    refine lv_iload_n hx hb dX11_bytesOf_13 rfl (lv_at hl 0 rfl) ?_
    refine lv_imul hx hb dX11_bytesOf_14 ?_
    refine lv_topi (fun x_6 ex_6 => ?_)
    obtain rfl : x_6 = 8 := ex_6.trans (by first | rfl | decide)
    refine lv_ishr hx hb dX11_bytesOf_15 ?_
    refine lv_topi (fun x_7 ex_7 => ?_)
    refine lv_sipush (v := 255) hx hb dX11_bytesOf_16 (by decide) ?_
    refine lv_iand hx hb dX11_bytesOf_19 ?_
    refine lv_topi (fun x_8 ex_8 => ?_)
    refine lv_if_ne (tgt := 27) hx hb dX11_bytesOf_20 (by decide) (fun c_9 => ?_) (fun c_9 => ?_)
    · refine lv_iconst (v := 1) hx hb dX11_bytesOf_27 (by decide) ?_
      refine lv_iadd hx hb dX11_bytesOf_28 ?_
      refine lv_topi (fun x_10 ex_10 => ?_)
      obtain rfl : x_10 = 2 := ex_10.trans (by first | rfl | decide)
      refine lv_istore_n (lv' := [(1, .int 2), (2, .int 1), (0, .int p0)]) hx hb dX11_bytesOf_29 rfl hl (by decide) rfl (fun ls hl => ?_)
      refine lv_iinc (v := 2) (lv' := [(2, .int 2), (1, .int 2), (0, .int p0)]) hx hb dX11_bytesOf_30 hl (k := 1) rfl (by decide) (by decide) rfl (fun ls hl => ?_)
      refine lv_goto (tgt := 4) hx hb dX11_bytesOf_33 (by decide) ?_
      refine lv_iload_n hx hb dX11_bytesOf_4 rfl (lv_at hl 0 rfl) ?_
      refine lv_iconst (v := 4) hx hb dX11_bytesOf_5 (by decide) ?_
      refine lv_icmp_ge (tgt := 36) hx hb dX11_bytesOf_6 (by decide) (fun c => absurd c (by decide)) (fun _ => ?_)
      refine lv_iload_n hx hb dX11_bytesOf_9 rfl (lv_at hl 1 rfl) ?_
      refine lv_iload_n hx hb dX11_bytesOf_10 rfl (lv_at hl 2 rfl) ?_
      refine lv_bipush (v := 8) hx hb dX11_bytesOf_11 (by decide) ?_
      refine lv_iload_n hx hb dX11_bytesOf_13 rfl (lv_at hl 0 rfl) ?_
      refine lv_imul hx hb dX11_bytesOf_14 ?_
      refine lv_topi (fun x_11 ex_11 => ?_)
      obtain rfl : x_11 = 16 := ex_11.trans (by first | rfl | decide)
      refine lv_ishr hx hb dX11_bytesOf_15 ?_
      refine lv_topi (fun x_12 ex_12 => ?_)
      refine lv_sipush (v := 255) hx hb dX11_bytesOf_16 (by decide) ?_
      refine lv_iand hx hb dX11_bytesOf_19 ?_
      refine lv_topi (fun x_13 ex_13 => ?_)
      refine lv_if_ne (tgt := 27) hx hb dX11_bytesOf_20 (by decide) (fun c_14 => ?_) (fun c_14 => ?_)
      · refine lv_iconst (v := 1) hx hb dX11_bytesOf_27 (by decide) ?_
        refine lv_iadd hx hb dX11_bytesOf_28 ?_
        refine lv_topi (fun x_15 ex_15 => ?_)
        obtain rfl : x_15 = 3 := ex_15.trans (by first | rfl | decide)
        refine lv_istore_n (lv' := [(1, .int 3), (2, .int 2), (0, .int p0)]) hx hb dX11_bytesOf_29 rfl hl (by decide) rfl (fun ls hl => ?_)
        refine lv_iinc (v := 3) (lv' := [(2, .int 3), (1, .int 3), (0, .int p0)]) hx hb dX11_bytesOf_30 hl (k := 1) rfl (by decide) (by decide) rfl (fun ls hl => ?_)
        refine lv_goto (tgt := 4) hx hb dX11_bytesOf_33 (by decide) ?_
        refine lv_iload_n hx hb dX11_bytesOf_4 rfl (lv_at hl 0 rfl) ?_
        refine lv_iconst (v := 4) hx hb dX11_bytesOf_5 (by decide) ?_
        refine lv_icmp_ge (tgt := 36) hx hb dX11_bytesOf_6 (by decide) (fun c => absurd c (by decide)) (fun _ => ?_)
        refine lv_iload_n hx hb dX11_bytesOf_9 rfl (lv_at hl 1 rfl) ?_
        refine lv_iload_n hx hb dX11_bytesOf_10 rfl (lv_at hl 2 rfl) ?_
        refine lv_bipush (v := 8) hx hb dX11_bytesOf_11 (by decide) ?_
        refine lv_iload_n hx hb dX11_bytesOf_13 rfl (lv_at hl 0 rfl) ?_
        refine lv_imul hx hb dX11_bytesOf_14 ?_
        refine lv_topi (fun x_16 ex_16 => ?_)
        obtain rfl : x_16 = 24 := ex_16.trans (by first | rfl | decide)
        refine lv_ishr hx hb dX11_bytesOf_15 ?_
        refine lv_topi (fun x_17 ex_17 => ?_)
        refine lv_sipush (v := 255) hx hb dX11_bytesOf_16 (by decide) ?_
        refine lv_iand hx hb dX11_bytesOf_19 ?_
        refine lv_topi (fun x_18 ex_18 => ?_)
        refine lv_if_ne (tgt := 27) hx hb dX11_bytesOf_20 (by decide) (fun c_19 => ?_) (fun c_19 => ?_)
        · refine lv_iconst (v := 1) hx hb dX11_bytesOf_27 (by decide) ?_
          refine lv_iadd hx hb dX11_bytesOf_28 ?_
          refine lv_topi (fun x_20 ex_20 => ?_)
          obtain rfl : x_20 = 4 := ex_20.trans (by first | rfl | decide)
          refine lv_istore_n (lv' := [(1, .int 4), (2, .int 3), (0, .int p0)]) hx hb dX11_bytesOf_29 rfl hl (by decide) rfl (fun ls hl => ?_)
          refine lv_iinc (v := 4) (lv' := [(2, .int 4), (1, .int 4), (0, .int p0)]) hx hb dX11_bytesOf_30 hl (k := 1) rfl (by decide) (by decide) rfl (fun ls hl => ?_)
          refine lv_goto (tgt := 4) hx hb dX11_bytesOf_33 (by decide) ?_
          refine lv_iload_n hx hb dX11_bytesOf_4 rfl (lv_at hl 0 rfl) ?_
          refine lv_iconst (v := 4) hx hb dX11_bytesOf_5 (by decide) ?_
          refine lv_icmp_ge (tgt := 36) hx hb dX11_bytesOf_6 (by decide) (fun _ => ?_) (fun c => absurd (by decide) c)
          refine lv_iload_n hx hb dX11_bytesOf_36 rfl (lv_at hl 1 rfl) ?_
          refine W.widen (k := 0) (n := 0) (Nat.le_of_ble_eq_true rfl) (Nat.le_of_ble_eq_true rfl) ?_
          exact W.iret (v := 4) hx hb hr (fun t ht hW => ⟨⟨4, (), rfl, (by
              have h0 : sp_by p0 0 = 1 := if_neg (by rw [← ex_2, ← ex_3]; exact c_4)
              have h8 : sp_by p0 8 = 1 := if_neg (by rw [← ex_7, ← ex_8]; exact c_9)
              have h16 : sp_by p0 16 = 1 := if_neg (by rw [← ex_12, ← ex_13]; exact c_14)
              have h24 : sp_by p0 24 = 1 := if_neg (by rw [← ex_17, ← ex_18]; exact c_19)
              show (4 : Int32) = nI (sp_cnt p0)
              unfold sp_cnt
              rw [h24, h16, h8, h0]
              rfl), trivial⟩, hS.F ht⟩) hS.2.2 dX11_bytesOf_37
        · refine lv_iconst (v := 0) hx hb dX11_bytesOf_23 (by decide) ?_
          refine lv_goto (tgt := 28) hx hb dX11_bytesOf_24 (by decide) ?_
          refine lv_iadd hx hb dX11_bytesOf_28 ?_
          refine lv_topi (fun x_21 ex_21 => ?_)
          obtain rfl : x_21 = 3 := ex_21.trans (by first | rfl | decide)
          refine lv_istore_n (lv' := [(1, .int 3), (2, .int 3), (0, .int p0)]) hx hb dX11_bytesOf_29 rfl hl (by decide) rfl (fun ls hl => ?_)
          refine lv_iinc (v := 4) (lv' := [(2, .int 4), (1, .int 3), (0, .int p0)]) hx hb dX11_bytesOf_30 hl (k := 1) rfl (by decide) (by decide) rfl (fun ls hl => ?_)
          refine lv_goto (tgt := 4) hx hb dX11_bytesOf_33 (by decide) ?_
          refine lv_iload_n hx hb dX11_bytesOf_4 rfl (lv_at hl 0 rfl) ?_
          refine lv_iconst (v := 4) hx hb dX11_bytesOf_5 (by decide) ?_
          refine lv_icmp_ge (tgt := 36) hx hb dX11_bytesOf_6 (by decide) (fun _ => ?_) (fun c => absurd (by decide) c)
          refine lv_iload_n hx hb dX11_bytesOf_36 rfl (lv_at hl 1 rfl) ?_
          refine W.widen (k := 0) (n := 0) (Nat.le_of_ble_eq_true rfl) (Nat.le_of_ble_eq_true rfl) ?_
          exact W.iret (v := 3) hx hb hr (fun t ht hW => ⟨⟨3, (), rfl, (by
              have h0 : sp_by p0 0 = 1 := if_neg (by rw [← ex_2, ← ex_3]; exact c_4)
              have h8 : sp_by p0 8 = 1 := if_neg (by rw [← ex_7, ← ex_8]; exact c_9)
              have h16 : sp_by p0 16 = 1 := if_neg (by rw [← ex_12, ← ex_13]; exact c_14)
              have h24 : sp_by p0 24 = 0 := if_pos (by rw [← ex_17, ← ex_18]; exact c_19)
              show (3 : Int32) = nI (sp_cnt p0)
              unfold sp_cnt
              rw [h24, h16, h8, h0]
              rfl), trivial⟩, hS.F ht⟩) hS.2.2 dX11_bytesOf_37
      · refine lv_iconst (v := 0) hx hb dX11_bytesOf_23 (by decide) ?_
        refine lv_goto (tgt := 28) hx hb dX11_bytesOf_24 (by decide) ?_
        refine lv_iadd hx hb dX11_bytesOf_28 ?_
        refine lv_topi (fun x_22 ex_22 => ?_)
        obtain rfl : x_22 = 2 := ex_22.trans (by first | rfl | decide)
        refine lv_istore_n (lv' := [(1, .int 2), (2, .int 2), (0, .int p0)]) hx hb dX11_bytesOf_29 rfl hl (by decide) rfl (fun ls hl => ?_)
        refine lv_iinc (v := 3) (lv' := [(2, .int 3), (1, .int 2), (0, .int p0)]) hx hb dX11_bytesOf_30 hl (k := 1) rfl (by decide) (by decide) rfl (fun ls hl => ?_)
        refine lv_goto (tgt := 4) hx hb dX11_bytesOf_33 (by decide) ?_
        refine lv_iload_n hx hb dX11_bytesOf_4 rfl (lv_at hl 0 rfl) ?_
        refine lv_iconst (v := 4) hx hb dX11_bytesOf_5 (by decide) ?_
        refine lv_icmp_ge (tgt := 36) hx hb dX11_bytesOf_6 (by decide) (fun c => absurd c (by decide)) (fun _ => ?_)
        refine lv_iload_n hx hb dX11_bytesOf_9 rfl (lv_at hl 1 rfl) ?_
        refine lv_iload_n hx hb dX11_bytesOf_10 rfl (lv_at hl 2 rfl) ?_
        refine lv_bipush (v := 8) hx hb dX11_bytesOf_11 (by decide) ?_
        refine lv_iload_n hx hb dX11_bytesOf_13 rfl (lv_at hl 0 rfl) ?_
        refine lv_imul hx hb dX11_bytesOf_14 ?_
        refine lv_topi (fun x_23 ex_23 => ?_)
        obtain rfl : x_23 = 24 := ex_23.trans (by first | rfl | decide)
        refine lv_ishr hx hb dX11_bytesOf_15 ?_
        refine lv_topi (fun x_24 ex_24 => ?_)
        refine lv_sipush (v := 255) hx hb dX11_bytesOf_16 (by decide) ?_
        refine lv_iand hx hb dX11_bytesOf_19 ?_
        refine lv_topi (fun x_25 ex_25 => ?_)
        refine lv_if_ne (tgt := 27) hx hb dX11_bytesOf_20 (by decide) (fun c_26 => ?_) (fun c_26 => ?_)
        · refine lv_iconst (v := 1) hx hb dX11_bytesOf_27 (by decide) ?_
          refine lv_iadd hx hb dX11_bytesOf_28 ?_
          refine lv_topi (fun x_27 ex_27 => ?_)
          obtain rfl : x_27 = 3 := ex_27.trans (by first | rfl | decide)
          refine lv_istore_n (lv' := [(1, .int 3), (2, .int 3), (0, .int p0)]) hx hb dX11_bytesOf_29 rfl hl (by decide) rfl (fun ls hl => ?_)
          refine lv_iinc (v := 4) (lv' := [(2, .int 4), (1, .int 3), (0, .int p0)]) hx hb dX11_bytesOf_30 hl (k := 1) rfl (by decide) (by decide) rfl (fun ls hl => ?_)
          refine lv_goto (tgt := 4) hx hb dX11_bytesOf_33 (by decide) ?_
          refine lv_iload_n hx hb dX11_bytesOf_4 rfl (lv_at hl 0 rfl) ?_
          refine lv_iconst (v := 4) hx hb dX11_bytesOf_5 (by decide) ?_
          refine lv_icmp_ge (tgt := 36) hx hb dX11_bytesOf_6 (by decide) (fun _ => ?_) (fun c => absurd (by decide) c)
          refine lv_iload_n hx hb dX11_bytesOf_36 rfl (lv_at hl 1 rfl) ?_
          refine W.widen (k := 0) (n := 0) (Nat.le_of_ble_eq_true rfl) (Nat.le_of_ble_eq_true rfl) ?_
          exact W.iret (v := 3) hx hb hr (fun t ht hW => ⟨⟨3, (), rfl, (by
              have h0 : sp_by p0 0 = 1 := if_neg (by rw [← ex_2, ← ex_3]; exact c_4)
              have h8 : sp_by p0 8 = 1 := if_neg (by rw [← ex_7, ← ex_8]; exact c_9)
              have h16 : sp_by p0 16 = 0 := if_pos (by rw [← ex_12, ← ex_13]; exact c_14)
              have h24 : sp_by p0 24 = 1 := if_neg (by rw [← ex_24, ← ex_25]; exact c_26)
              show (3 : Int32) = nI (sp_cnt p0)
              unfold sp_cnt
              rw [h24, h16, h8, h0]
              rfl), trivial⟩, hS.F ht⟩) hS.2.2 dX11_bytesOf_37
        · refine lv_iconst (v := 0) hx hb dX11_bytesOf_23 (by decide) ?_
          refine lv_goto (tgt := 28) hx hb dX11_bytesOf_24 (by decide) ?_
          refine lv_iadd hx hb dX11_bytesOf_28 ?_
          refine lv_topi (fun x_28 ex_28 => ?_)
          obtain rfl : x_28 = 2 := ex_28.trans (by first | rfl | decide)
          refine lv_istore_n (lv' := [(1, .int 2), (2, .int 3), (0, .int p0)]) hx hb dX11_bytesOf_29 rfl hl (by decide) rfl (fun ls hl => ?_)
          refine lv_iinc (v := 4) (lv' := [(2, .int 4), (1, .int 2), (0, .int p0)]) hx hb dX11_bytesOf_30 hl (k := 1) rfl (by decide) (by decide) rfl (fun ls hl => ?_)
          refine lv_goto (tgt := 4) hx hb dX11_bytesOf_33 (by decide) ?_
          refine lv_iload_n hx hb dX11_bytesOf_4 rfl (lv_at hl 0 rfl) ?_
          refine lv_iconst (v := 4) hx hb dX11_bytesOf_5 (by decide) ?_
          refine lv_icmp_ge (tgt := 36) hx hb dX11_bytesOf_6 (by decide) (fun _ => ?_) (fun c => absurd (by decide) c)
          refine lv_iload_n hx hb dX11_bytesOf_36 rfl (lv_at hl 1 rfl) ?_
          refine W.widen (k := 0) (n := 0) (Nat.le_of_ble_eq_true rfl) (Nat.le_of_ble_eq_true rfl) ?_
          exact W.iret (v := 2) hx hb hr (fun t ht hW => ⟨⟨2, (), rfl, (by
              have h0 : sp_by p0 0 = 1 := if_neg (by rw [← ex_2, ← ex_3]; exact c_4)
              have h8 : sp_by p0 8 = 1 := if_neg (by rw [← ex_7, ← ex_8]; exact c_9)
              have h16 : sp_by p0 16 = 0 := if_pos (by rw [← ex_12, ← ex_13]; exact c_14)
              have h24 : sp_by p0 24 = 0 := if_pos (by rw [← ex_24, ← ex_25]; exact c_26)
              show (2 : Int32) = nI (sp_cnt p0)
              unfold sp_cnt
              rw [h24, h16, h8, h0]
              rfl), trivial⟩, hS.F ht⟩) hS.2.2 dX11_bytesOf_37
    · refine lv_iconst (v := 0) hx hb dX11_bytesOf_23 (by decide) ?_
      refine lv_goto (tgt := 28) hx hb dX11_bytesOf_24 (by decide) ?_
      refine lv_iadd hx hb dX11_bytesOf_28 ?_
      refine lv_topi (fun x_29 ex_29 => ?_)
      obtain rfl : x_29 = 1 := ex_29.trans (by first | rfl | decide)
      refine lv_istore_n (lv' := [(1, .int 1), (2, .int 1), (0, .int p0)]) hx hb dX11_bytesOf_29 rfl hl (by decide) rfl (fun ls hl => ?_)
      refine lv_iinc (v := 2) (lv' := [(2, .int 2), (1, .int 1), (0, .int p0)]) hx hb dX11_bytesOf_30 hl (k := 1) rfl (by decide) (by decide) rfl (fun ls hl => ?_)
      refine lv_goto (tgt := 4) hx hb dX11_bytesOf_33 (by decide) ?_
      refine lv_iload_n hx hb dX11_bytesOf_4 rfl (lv_at hl 0 rfl) ?_
      refine lv_iconst (v := 4) hx hb dX11_bytesOf_5 (by decide) ?_
      refine lv_icmp_ge (tgt := 36) hx hb dX11_bytesOf_6 (by decide) (fun c => absurd c (by decide)) (fun _ => ?_)
      refine lv_iload_n hx hb dX11_bytesOf_9 rfl (lv_at hl 1 rfl) ?_
      refine lv_iload_n hx hb dX11_bytesOf_10 rfl (lv_at hl 2 rfl) ?_
      refine lv_bipush (v := 8) hx hb dX11_bytesOf_11 (by decide) ?_
      refine lv_iload_n hx hb dX11_bytesOf_13 rfl (lv_at hl 0 rfl) ?_
      refine lv_imul hx hb dX11_bytesOf_14 ?_
      refine lv_topi (fun x_30 ex_30 => ?_)
      obtain rfl : x_30 = 16 := ex_30.trans (by first | rfl | decide)
      refine lv_ishr hx hb dX11_bytesOf_15 ?_
      refine lv_topi (fun x_31 ex_31 => ?_)
      refine lv_sipush (v := 255) hx hb dX11_bytesOf_16 (by decide) ?_
      refine lv_iand hx hb dX11_bytesOf_19 ?_
      refine lv_topi (fun x_32 ex_32 => ?_)
      refine lv_if_ne (tgt := 27) hx hb dX11_bytesOf_20 (by decide) (fun c_33 => ?_) (fun c_33 => ?_)
      · refine lv_iconst (v := 1) hx hb dX11_bytesOf_27 (by decide) ?_
        refine lv_iadd hx hb dX11_bytesOf_28 ?_
        refine lv_topi (fun x_34 ex_34 => ?_)
        obtain rfl : x_34 = 2 := ex_34.trans (by first | rfl | decide)
        refine lv_istore_n (lv' := [(1, .int 2), (2, .int 2), (0, .int p0)]) hx hb dX11_bytesOf_29 rfl hl (by decide) rfl (fun ls hl => ?_)
        refine lv_iinc (v := 3) (lv' := [(2, .int 3), (1, .int 2), (0, .int p0)]) hx hb dX11_bytesOf_30 hl (k := 1) rfl (by decide) (by decide) rfl (fun ls hl => ?_)
        refine lv_goto (tgt := 4) hx hb dX11_bytesOf_33 (by decide) ?_
        refine lv_iload_n hx hb dX11_bytesOf_4 rfl (lv_at hl 0 rfl) ?_
        refine lv_iconst (v := 4) hx hb dX11_bytesOf_5 (by decide) ?_
        refine lv_icmp_ge (tgt := 36) hx hb dX11_bytesOf_6 (by decide) (fun c => absurd c (by decide)) (fun _ => ?_)
        refine lv_iload_n hx hb dX11_bytesOf_9 rfl (lv_at hl 1 rfl) ?_
        refine lv_iload_n hx hb dX11_bytesOf_10 rfl (lv_at hl 2 rfl) ?_
        refine lv_bipush (v := 8) hx hb dX11_bytesOf_11 (by decide) ?_
        refine lv_iload_n hx hb dX11_bytesOf_13 rfl (lv_at hl 0 rfl) ?_
        refine lv_imul hx hb dX11_bytesOf_14 ?_
        refine lv_topi (fun x_35 ex_35 => ?_)
        obtain rfl : x_35 = 24 := ex_35.trans (by first | rfl | decide)
        refine lv_ishr hx hb dX11_bytesOf_15 ?_
        refine lv_topi (fun x_36 ex_36 => ?_)
        refine lv_sipush (v := 255) hx hb dX11_bytesOf_16 (by decide) ?_
        refine lv_iand hx hb dX11_bytesOf_19 ?_
        refine lv_topi (fun x_37 ex_37 => ?_)
        refine lv_if_ne (tgt := 27) hx hb dX11_bytesOf_20 (by decide) (fun c_38 => ?_) (fun c_38 => ?_)
        · refine lv_iconst (v := 1) hx hb dX11_bytesOf_27 (by decide) ?_
          refine lv_iadd hx hb dX11_bytesOf_28 ?_
          refine lv_topi (fun x_39 ex_39 => ?_)
          obtain rfl : x_39 = 3 := ex_39.trans (by first | rfl | decide)
          refine lv_istore_n (lv' := [(1, .int 3), (2, .int 3), (0, .int p0)]) hx hb dX11_bytesOf_29 rfl hl (by decide) rfl (fun ls hl => ?_)
          refine lv_iinc (v := 4) (lv' := [(2, .int 4), (1, .int 3), (0, .int p0)]) hx hb dX11_bytesOf_30 hl (k := 1) rfl (by decide) (by decide) rfl (fun ls hl => ?_)
          refine lv_goto (tgt := 4) hx hb dX11_bytesOf_33 (by decide) ?_
          refine lv_iload_n hx hb dX11_bytesOf_4 rfl (lv_at hl 0 rfl) ?_
          refine lv_iconst (v := 4) hx hb dX11_bytesOf_5 (by decide) ?_
          refine lv_icmp_ge (tgt := 36) hx hb dX11_bytesOf_6 (by decide) (fun _ => ?_) (fun c => absurd (by decide) c)
          refine lv_iload_n hx hb dX11_bytesOf_36 rfl (lv_at hl 1 rfl) ?_
          refine W.widen (k := 0) (n := 0) (Nat.le_of_ble_eq_true rfl) (Nat.le_of_ble_eq_true rfl) ?_
          exact W.iret (v := 3) hx hb hr (fun t ht hW => ⟨⟨3, (), rfl, (by
              have h0 : sp_by p0 0 = 1 := if_neg (by rw [← ex_2, ← ex_3]; exact c_4)
              have h8 : sp_by p0 8 = 0 := if_pos (by rw [← ex_7, ← ex_8]; exact c_9)
              have h16 : sp_by p0 16 = 1 := if_neg (by rw [← ex_31, ← ex_32]; exact c_33)
              have h24 : sp_by p0 24 = 1 := if_neg (by rw [← ex_36, ← ex_37]; exact c_38)
              show (3 : Int32) = nI (sp_cnt p0)
              unfold sp_cnt
              rw [h24, h16, h8, h0]
              rfl), trivial⟩, hS.F ht⟩) hS.2.2 dX11_bytesOf_37
        · refine lv_iconst (v := 0) hx hb dX11_bytesOf_23 (by decide) ?_
          refine lv_goto (tgt := 28) hx hb dX11_bytesOf_24 (by decide) ?_
          refine lv_iadd hx hb dX11_bytesOf_28 ?_
          refine lv_topi (fun x_40 ex_40 => ?_)
          obtain rfl : x_40 = 2 := ex_40.trans (by first | rfl | decide)
          refine lv_istore_n (lv' := [(1, .int 2), (2, .int 3), (0, .int p0)]) hx hb dX11_bytesOf_29 rfl hl (by decide) rfl (fun ls hl => ?_)
          refine lv_iinc (v := 4) (lv' := [(2, .int 4), (1, .int 2), (0, .int p0)]) hx hb dX11_bytesOf_30 hl (k := 1) rfl (by decide) (by decide) rfl (fun ls hl => ?_)
          refine lv_goto (tgt := 4) hx hb dX11_bytesOf_33 (by decide) ?_
          refine lv_iload_n hx hb dX11_bytesOf_4 rfl (lv_at hl 0 rfl) ?_
          refine lv_iconst (v := 4) hx hb dX11_bytesOf_5 (by decide) ?_
          refine lv_icmp_ge (tgt := 36) hx hb dX11_bytesOf_6 (by decide) (fun _ => ?_) (fun c => absurd (by decide) c)
          refine lv_iload_n hx hb dX11_bytesOf_36 rfl (lv_at hl 1 rfl) ?_
          refine W.widen (k := 0) (n := 0) (Nat.le_of_ble_eq_true rfl) (Nat.le_of_ble_eq_true rfl) ?_
          exact W.iret (v := 2) hx hb hr (fun t ht hW => ⟨⟨2, (), rfl, (by
              have h0 : sp_by p0 0 = 1 := if_neg (by rw [← ex_2, ← ex_3]; exact c_4)
              have h8 : sp_by p0 8 = 0 := if_pos (by rw [← ex_7, ← ex_8]; exact c_9)
              have h16 : sp_by p0 16 = 1 := if_neg (by rw [← ex_31, ← ex_32]; exact c_33)
              have h24 : sp_by p0 24 = 0 := if_pos (by rw [← ex_36, ← ex_37]; exact c_38)
              show (2 : Int32) = nI (sp_cnt p0)
              unfold sp_cnt
              rw [h24, h16, h8, h0]
              rfl), trivial⟩, hS.F ht⟩) hS.2.2 dX11_bytesOf_37
      · refine lv_iconst (v := 0) hx hb dX11_bytesOf_23 (by decide) ?_
        refine lv_goto (tgt := 28) hx hb dX11_bytesOf_24 (by decide) ?_
        refine lv_iadd hx hb dX11_bytesOf_28 ?_
        refine lv_topi (fun x_41 ex_41 => ?_)
        obtain rfl : x_41 = 1 := ex_41.trans (by first | rfl | decide)
        refine lv_istore_n (lv' := [(1, .int 1), (2, .int 2), (0, .int p0)]) hx hb dX11_bytesOf_29 rfl hl (by decide) rfl (fun ls hl => ?_)
        refine lv_iinc (v := 3) (lv' := [(2, .int 3), (1, .int 1), (0, .int p0)]) hx hb dX11_bytesOf_30 hl (k := 1) rfl (by decide) (by decide) rfl (fun ls hl => ?_)
        refine lv_goto (tgt := 4) hx hb dX11_bytesOf_33 (by decide) ?_
        refine lv_iload_n hx hb dX11_bytesOf_4 rfl (lv_at hl 0 rfl) ?_
        refine lv_iconst (v := 4) hx hb dX11_bytesOf_5 (by decide) ?_
        refine lv_icmp_ge (tgt := 36) hx hb dX11_bytesOf_6 (by decide) (fun c => absurd c (by decide)) (fun _ => ?_)
        refine lv_iload_n hx hb dX11_bytesOf_9 rfl (lv_at hl 1 rfl) ?_
        refine lv_iload_n hx hb dX11_bytesOf_10 rfl (lv_at hl 2 rfl) ?_
        refine lv_bipush (v := 8) hx hb dX11_bytesOf_11 (by decide) ?_
        refine lv_iload_n hx hb dX11_bytesOf_13 rfl (lv_at hl 0 rfl) ?_
        refine lv_imul hx hb dX11_bytesOf_14 ?_
        refine lv_topi (fun x_42 ex_42 => ?_)
        obtain rfl : x_42 = 24 := ex_42.trans (by first | rfl | decide)
        refine lv_ishr hx hb dX11_bytesOf_15 ?_
        refine lv_topi (fun x_43 ex_43 => ?_)
        refine lv_sipush (v := 255) hx hb dX11_bytesOf_16 (by decide) ?_
        refine lv_iand hx hb dX11_bytesOf_19 ?_
        refine lv_topi (fun x_44 ex_44 => ?_)
        refine lv_if_ne (tgt := 27) hx hb dX11_bytesOf_20 (by decide) (fun c_45 => ?_) (fun c_45 => ?_)
        · refine lv_iconst (v := 1) hx hb dX11_bytesOf_27 (by decide) ?_
          refine lv_iadd hx hb dX11_bytesOf_28 ?_
          refine lv_topi (fun x_46 ex_46 => ?_)
          obtain rfl : x_46 = 2 := ex_46.trans (by first | rfl | decide)
          refine lv_istore_n (lv' := [(1, .int 2), (2, .int 3), (0, .int p0)]) hx hb dX11_bytesOf_29 rfl hl (by decide) rfl (fun ls hl => ?_)
          refine lv_iinc (v := 4) (lv' := [(2, .int 4), (1, .int 2), (0, .int p0)]) hx hb dX11_bytesOf_30 hl (k := 1) rfl (by decide) (by decide) rfl (fun ls hl => ?_)
          refine lv_goto (tgt := 4) hx hb dX11_bytesOf_33 (by decide) ?_
          refine lv_iload_n hx hb dX11_bytesOf_4 rfl (lv_at hl 0 rfl) ?_
          refine lv_iconst (v := 4) hx hb dX11_bytesOf_5 (by decide) ?_
          refine lv_icmp_ge (tgt := 36) hx hb dX11_bytesOf_6 (by decide) (fun _ => ?_) (fun c => absurd (by decide) c)
          refine lv_iload_n hx hb dX11_bytesOf_36 rfl (lv_at hl 1 rfl) ?_
          refine W.widen (k := 0) (n := 0) (Nat.le_of_ble_eq_true rfl) (Nat.le_of_ble_eq_true rfl) ?_
          exact W.iret (v := 2) hx hb hr (fun t ht hW => ⟨⟨2, (), rfl, (by
              have h0 : sp_by p0 0 = 1 := if_neg (by rw [← ex_2, ← ex_3]; exact c_4)
              have h8 : sp_by p0 8 = 0 := if_pos (by rw [← ex_7, ← ex_8]; exact c_9)
              have h16 : sp_by p0 16 = 0 := if_pos (by rw [← ex_31, ← ex_32]; exact c_33)
              have h24 : sp_by p0 24 = 1 := if_neg (by rw [← ex_43, ← ex_44]; exact c_45)
              show (2 : Int32) = nI (sp_cnt p0)
              unfold sp_cnt
              rw [h24, h16, h8, h0]
              rfl), trivial⟩, hS.F ht⟩) hS.2.2 dX11_bytesOf_37
        · refine lv_iconst (v := 0) hx hb dX11_bytesOf_23 (by decide) ?_
          refine lv_goto (tgt := 28) hx hb dX11_bytesOf_24 (by decide) ?_
          refine lv_iadd hx hb dX11_bytesOf_28 ?_
          refine lv_topi (fun x_47 ex_47 => ?_)
          obtain rfl : x_47 = 1 := ex_47.trans (by first | rfl | decide)
          refine lv_istore_n (lv' := [(1, .int 1), (2, .int 3), (0, .int p0)]) hx hb dX11_bytesOf_29 rfl hl (by decide) rfl (fun ls hl => ?_)
          refine lv_iinc (v := 4) (lv' := [(2, .int 4), (1, .int 1), (0, .int p0)]) hx hb dX11_bytesOf_30 hl (k := 1) rfl (by decide) (by decide) rfl (fun ls hl => ?_)
          refine lv_goto (tgt := 4) hx hb dX11_bytesOf_33 (by decide) ?_
          refine lv_iload_n hx hb dX11_bytesOf_4 rfl (lv_at hl 0 rfl) ?_
          refine lv_iconst (v := 4) hx hb dX11_bytesOf_5 (by decide) ?_
          refine lv_icmp_ge (tgt := 36) hx hb dX11_bytesOf_6 (by decide) (fun _ => ?_) (fun c => absurd (by decide) c)
          refine lv_iload_n hx hb dX11_bytesOf_36 rfl (lv_at hl 1 rfl) ?_
          refine W.widen (k := 0) (n := 0) (Nat.le_of_ble_eq_true rfl) (Nat.le_of_ble_eq_true rfl) ?_
          exact W.iret (v := 1) hx hb hr (fun t ht hW => ⟨⟨1, (), rfl, (by
              have h0 : sp_by p0 0 = 1 := if_neg (by rw [← ex_2, ← ex_3]; exact c_4)
              have h8 : sp_by p0 8 = 0 := if_pos (by rw [← ex_7, ← ex_8]; exact c_9)
              have h16 : sp_by p0 16 = 0 := if_pos (by rw [← ex_31, ← ex_32]; exact c_33)
              have h24 : sp_by p0 24 = 0 := if_pos (by rw [← ex_43, ← ex_44]; exact c_45)
              show (1 : Int32) = nI (sp_cnt p0)
              unfold sp_cnt
              rw [h24, h16, h8, h0]
              rfl), trivial⟩, hS.F ht⟩) hS.2.2 dX11_bytesOf_37
  · refine lv_iconst (v := 0) hx hb dX11_bytesOf_23 (by decide) ?_
    refine lv_goto (tgt := 28) hx hb dX11_bytesOf_24 (by decide) ?_
    refine lv_iadd hx hb dX11_bytesOf_28 ?_
    refine lv_topi (fun x_48 ex_48 => ?_)
    obtain rfl : x_48 = 0 := ex_48.trans (by first | rfl | decide)
    refine lv_istore_n (lv' := [(1, .int 0), (2, .int 0), (0, .int p0)]) hx hb dX11_bytesOf_29 rfl hl (by decide) rfl (fun ls hl => ?_)
    refine lv_iinc (v := 1) (lv' := [(2, .int 1), (1, .int 0), (0, .int p0)]) hx hb dX11_bytesOf_30 hl (k := 1) rfl (by decide) (by decide) rfl (fun ls hl => ?_)
    refine lv_goto (tgt := 4) hx hb dX11_bytesOf_33 (by decide) ?_
    refine lv_iload_n hx hb dX11_bytesOf_4 rfl (lv_at hl 0 rfl) ?_
    refine lv_iconst (v := 4) hx hb dX11_bytesOf_5 (by decide) ?_
    refine lv_icmp_ge (tgt := 36) hx hb dX11_bytesOf_6 (by decide) (fun c => absurd c (by decide)) (fun _ => ?_)
    refine lv_iload_n hx hb dX11_bytesOf_9 rfl (lv_at hl 1 rfl) ?_
    refine lv_iload_n hx hb dX11_bytesOf_10 rfl (lv_at hl 2 rfl) ?_
    refine lv_bipush (v := 8) hx hb dX11_bytesOf_11 (by decide) ?_
    refine lv_iload_n hx hb dX11_bytesOf_13 rfl (lv_at hl 0 rfl) ?_
    refine lv_imul hx hb dX11_bytesOf_14 ?_
    refine lv_topi (fun x_49 ex_49 => ?_)
    obtain rfl : x_49 = 8 := ex_49.trans (by first | rfl | decide)
    refine lv_ishr hx hb dX11_bytesOf_15 ?_
    refine lv_topi (fun x_50 ex_50 => ?_)
    refine lv_sipush (v := 255) hx hb dX11_bytesOf_16 (by decide) ?_
    refine lv_iand hx hb dX11_bytesOf_19 ?_
    refine lv_topi (fun x_51 ex_51 => ?_)
    refine lv_if_ne (tgt := 27) hx hb dX11_bytesOf_20 (by decide) (fun c_52 => ?_) (fun c_52 => ?_)
    · refine lv_iconst (v := 1) hx hb dX11_bytesOf_27 (by decide) ?_
      refine lv_iadd hx hb dX11_bytesOf_28 ?_
      refine lv_topi (fun x_53 ex_53 => ?_)
      obtain rfl : x_53 = 1 := ex_53.trans (by first | rfl | decide)
      refine lv_istore_n (lv' := [(1, .int 1), (2, .int 1), (0, .int p0)]) hx hb dX11_bytesOf_29 rfl hl (by decide) rfl (fun ls hl => ?_)
      refine lv_iinc (v := 2) (lv' := [(2, .int 2), (1, .int 1), (0, .int p0)]) hx hb dX11_bytesOf_30 hl (k := 1) rfl (by decide) (by decide) rfl (fun ls hl => ?_)
      refine lv_goto (tgt := 4) hx hb dX11_bytesOf_33 (by decide) ?_
      refine lv_iload_n hx hb dX11_bytesOf_4 rfl (lv_at hl 0 rfl) ?_
      refine lv_iconst (v := 4) hx hb dX11_bytesOf_5 (by decide) ?_
      refine lv_icmp_ge (tgt := 36) hx hb dX11_bytesOf_6 (by decide) (fun c => absurd c (by decide)) (fun _ => ?_)
      refine lv_iload_n hx hb dX11_bytesOf_9 rfl (lv_at hl 1 rfl) ?_
      refine lv_iload_n hx hb dX11_bytesOf_10 rfl (lv_at hl 2 rfl) ?_
      refine lv_bipush (v := 8) hx hb dX11_bytesOf_11 (by decide) ?_
      refine lv_iload_n hx hb dX11_bytesOf_13 rfl (lv_at hl 0 rfl) ?_
      refine lv_imul hx hb dX11_bytesOf_14 ?_
      refine lv_topi (fun x_54 ex_54 => ?_)
      obtain rfl : x_54 = 16 := ex_54.trans (by first | rfl | decide)
      refine lv_ishr hx hb dX11_bytesOf_15 ?_
      refine lv_topi (fun x_55 ex_55 => ?_)
      refine lv_sipush (v := 255) hx hb dX11_bytesOf_16 (by decide) ?_
      refine lv_iand hx hb dX11_bytesOf_19 ?_
      refine lv_topi (fun x_56 ex_56 => ?_)
      refine lv_if_ne (tgt := 27) hx hb dX11_bytesOf_20 (by decide) (fun c_57 => ?_) (fun c_57 => ?_)
      · refine lv_iconst (v := 1) hx hb dX11_bytesOf_27 (by decide) ?_
        refine lv_iadd hx hb dX11_bytesOf_28 ?_
        refine lv_topi (fun x_58 ex_58 => ?_)
        obtain rfl : x_58 = 2 := ex_58.trans (by first | rfl | decide)
        refine lv_istore_n (lv' := [(1, .int 2), (2, .int 2), (0, .int p0)]) hx hb dX11_bytesOf_29 rfl hl (by decide) rfl (fun ls hl => ?_)
        refine lv_iinc (v := 3) (lv' := [(2, .int 3), (1, .int 2), (0, .int p0)]) hx hb dX11_bytesOf_30 hl (k := 1) rfl (by decide) (by decide) rfl (fun ls hl => ?_)
        refine lv_goto (tgt := 4) hx hb dX11_bytesOf_33 (by decide) ?_
        refine lv_iload_n hx hb dX11_bytesOf_4 rfl (lv_at hl 0 rfl) ?_
        refine lv_iconst (v := 4) hx hb dX11_bytesOf_5 (by decide) ?_
        refine lv_icmp_ge (tgt := 36) hx hb dX11_bytesOf_6 (by decide) (fun c => absurd c (by decide)) (fun _ => ?_)
        refine lv_iload_n hx hb dX11_bytesOf_9 rfl (lv_at hl 1 rfl) ?_
        refine lv_iload_n hx hb dX11_bytesOf_10 rfl (lv_at hl 2 rfl) ?_
        refine lv_bipush (v := 8) hx hb dX11_bytesOf_11 (by decide) ?_
        refine lv_iload_n hx hb dX11_bytesOf_13 rfl (lv_at hl 0 rfl) ?_
        refine lv_imul hx hb dX11_bytesOf_14 ?_
        refine lv_topi (fun x_59 ex_59 => ?_)
        obtain rfl : x_59 = 24 := ex_59.trans (by first | rfl | decide)
        refine lv_ishr hx hb dX11_bytesOf_15 ?_
        refine lv_topi (fun x_60 ex_60 => ?_)
        refine lv_sipush (v := 255) hx hb dX11_bytesOf_16 (by decide) ?_
        refine lv_iand hx hb dX11_bytesOf_19 ?_
        refine lv_topi (fun x_61 ex_61 => ?_)
        refine lv_if_ne (tgt := 27) hx hb dX11_bytesOf_20 (by decide) (fun c_62 => ?_) (fun c_62 => ?_)
        · refine lv_iconst (v := 1) hx hb dX11_bytesOf_27 (by decide) ?_
          refine lv_iadd hx hb dX11_bytesOf_28 ?_
          refine lv_topi (fun x_63 ex_63 => ?_)
          obtain rfl : x_63 = 3 := ex_63.trans (by first | rfl | decide)
          refine lv_istore_n (lv' := [(1, .int 3), (2, .int 3), (0, .int p0)]) hx hb dX11_bytesOf_29 rfl hl (by decide) rfl (fun ls hl => ?_)
          refine lv_iinc (v := 4) (lv' := [(2, .int 4), (1, .int 3), (0, .int p0)]) hx hb dX11_bytesOf_30 hl (k := 1) rfl (by decide) (by decide) rfl (fun ls hl => ?_)
          refine lv_goto (tgt := 4) hx hb dX11_bytesOf_33 (by decide) ?_
          refine lv_iload_n hx hb dX11_bytesOf_4 rfl (lv_at hl 0 rfl) ?_
          refine lv_iconst (v := 4) hx hb dX11_bytesOf_5 (by decide) ?_
          refine lv_icmp_ge (tgt := 36) hx hb dX11_bytesOf_6 (by decide) (fun _ => ?_) (fun c => absurd (by decide) c)
          refine lv_iload_n hx hb dX11_bytesOf_36 rfl (lv_at hl 1 rfl) ?_
          refine W.widen (k := 0) (n := 0) (Nat.le_of_ble_eq_true rfl) (Nat.le_of_ble_eq_true rfl) ?_
          exact W.iret (v := 3) hx hb hr (fun t ht hW => ⟨⟨3, (), rfl, (by
              have h0 : sp_by p0 0 = 0 := if_pos (by rw [← ex_2, ← ex_3]; exact c_4)
              have h8 : sp_by p0 8 = 1 := if_neg (by rw [← ex_50, ← ex_51]; exact c_52)
              have h16 : sp_by p0 16 = 1 := if_neg (by rw [← ex_55, ← ex_56]; exact c_57)
              have h24 : sp_by p0 24 = 1 := if_neg (by rw [← ex_60, ← ex_61]; exact c_62)
              show (3 : Int32) = nI (sp_cnt p0)
              unfold sp_cnt
              rw [h24, h16, h8, h0]
              rfl), trivial⟩, hS.F ht⟩) hS.2.2 dX11_bytesOf_37
        · refine lv_iconst (v := 0) hx hb dX11_bytesOf_23 (by decide) ?_
          refine lv_goto (tgt := 28) hx hb dX11_bytesOf_24 (by decide) ?_
          refine lv_iadd hx hb dX11_bytesOf_28 ?_
          refine lv_topi (fun x_64 ex_64 => ?_)
          obtain rfl : x_64 = 2 := ex_64.trans (by first | rfl | decide)
          refine lv_istore_n (lv' := [(1, .int 2), (2, .int 3), (0, .int p0)]) hx hb dX11_bytesOf_29 rfl hl (by decide) rfl (fun ls hl => ?_)
          refine lv_iinc (v := 4) (lv' := [(2, .int 4), (1, .int 2), (0, .int p0)]) hx hb dX11_bytesOf_30 hl (k := 1) rfl (by decide) (by decide) rfl (fun ls hl => ?_)
          refine lv_goto (tgt := 4) hx hb dX11_bytesOf_33 (by decide) ?_
          refine lv_iload_n hx hb dX11_bytesOf_4 rfl (lv_at hl 0 rfl) ?_
          refine lv_iconst (v := 4) hx hb dX11_bytesOf_5 (by decide) ?_
          refine lv_icmp_ge (tgt := 36) hx hb dX11_bytesOf_6 (by decide) (fun _ => ?_) (fun c => absurd (by decide) c)
          refine lv_iload_n hx hb dX11_bytesOf_36 rfl (lv_at hl 1 rfl) ?_
          refine W.widen (k := 0) (n := 0) (Nat.le_of_ble_eq_true rfl) (Nat.le_of_ble_eq_true rfl) ?_
          exact W.iret (v := 2) hx hb hr (fun t ht hW => ⟨⟨2, (), rfl, (by
              have h0 : sp_by p0 0 = 0 := if_pos (by rw [← ex_2, ← ex_3]; exact c_4)
              have h8 : sp_by p0 8 = 1 := if_neg (by rw [← ex_50, ← ex_51]; exact c_52)
              have h16 : sp_by p0 16 = 1 := if_neg (by rw [← ex_55, ← ex_56]; exact c_57)
              have h24 : sp_by p0 24 = 0 := if_pos (by rw [← ex_60, ← ex_61]; exact c_62)
              show (2 : Int32) = nI (sp_cnt p0)
              unfold sp_cnt
              rw [h24, h16, h8, h0]
              rfl), trivial⟩, hS.F ht⟩) hS.2.2 dX11_bytesOf_37
      · refine lv_iconst (v := 0) hx hb dX11_bytesOf_23 (by decide) ?_
        refine lv_goto (tgt := 28) hx hb dX11_bytesOf_24 (by decide) ?_
        refine lv_iadd hx hb dX11_bytesOf_28 ?_
        refine lv_topi (fun x_65 ex_65 => ?_)
        obtain rfl : x_65 = 1 := ex_65.trans (by first | rfl | decide)
        refine lv_istore_n (lv' := [(1, .int 1), (2, .int 2), (0, .int p0)]) hx hb dX11_bytesOf_29 rfl hl (by decide) rfl (fun ls hl => ?_)
        refine lv_iinc (v := 3) (lv' := [(2, .int 3), (1, .int 1), (0, .int p0)]) hx hb dX11_bytesOf_30 hl (k := 1) rfl (by decide) (by decide) rfl (fun ls hl => ?_)
        refine lv_goto (tgt := 4) hx hb dX11_bytesOf_33 (by decide) ?_
        refine lv_iload_n hx hb dX11_bytesOf_4 rfl (lv_at hl 0 rfl) ?_
        refine lv_iconst (v := 4) hx hb dX11_bytesOf_5 (by decide) ?_
        refine lv_icmp_ge (tgt := 36) hx hb dX11_bytesOf_6 (by decide) (fun c => absurd c (by decide)) (fun _ => ?_)
        refine lv_iload_n hx hb dX11_bytesOf_9 rfl (lv_at hl 1 rfl) ?_
        refine lv_iload_n hx hb dX11_bytesOf_10 rfl (lv_at hl 2 rfl) ?_
        refine lv_bipush (v := 8) hx hb dX11_bytesOf_11 (by decide) ?_
        refine lv_iload_n hx hb dX11_bytesOf_13 rfl (lv_at hl 0 rfl) ?_
        refine lv_imul hx hb dX11_bytesOf_14 ?_
        refine lv_topi (fun x_66 ex_66 => ?_)
        obtain rfl : x_66 = 24 := ex_66.trans (by first | rfl | decide)
        refine lv_ishr hx hb dX11_bytesOf_15 ?_
        refine lv_topi (fun x_67 ex_67 => ?_)
        refine lv_sipush (v := 255) hx hb dX11_bytesOf_16 (by decide) ?_
        refine lv_iand hx hb dX11_bytesOf_19 ?_
        refine lv_topi (fun x_68 ex_68 => ?_)
        refine lv_if_ne (tgt := 27) hx hb dX11_bytesOf_20 (by decide) (fun c_69 => ?_) (fun c_69 => ?_)
        · refine lv_iconst (v := 1) hx hb dX11_bytesOf_27 (by decide) ?_
          refine lv_iadd hx hb dX11_bytesOf_28 ?_
          refine lv_topi (fun x_70 ex_70 => ?_)
          obtain rfl : x_70 = 2 := ex_70.trans (by first | rfl | decide)
          refine lv_istore_n (lv' := [(1, .int 2), (2, .int 3), (0, .int p0)]) hx hb dX11_bytesOf_29 rfl hl (by decide) rfl (fun ls hl => ?_)
          refine lv_iinc (v := 4) (lv' := [(2, .int 4), (1, .int 2), (0, .int p0)]) hx hb dX11_bytesOf_30 hl (k := 1) rfl (by decide) (by decide) rfl (fun ls hl => ?_)
          refine lv_goto (tgt := 4) hx hb dX11_bytesOf_33 (by decide) ?_
          refine lv_iload_n hx hb dX11_bytesOf_4 rfl (lv_at hl 0 rfl) ?_
          refine lv_iconst (v := 4) hx hb dX11_bytesOf_5 (by decide) ?_
          refine lv_icmp_ge (tgt := 36) hx hb dX11_bytesOf_6 (by decide) (fun _ => ?_) (fun c => absurd (by decide) c)
          refine lv_iload_n hx hb dX11_bytesOf_36 rfl (lv_at hl 1 rfl) ?_
          refine W.widen (k := 0) (n := 0) (Nat.le_of_ble_eq_true rfl) (Nat.le_of_ble_eq_true rfl) ?_
          exact W.iret (v := 2) hx hb hr (fun t ht hW => ⟨⟨2, (), rfl, (by
              have h0 : sp_by p0 0 = 0 := if_pos (by rw [← ex_2, ← ex_3]; exact c_4)
              have h8 : sp_by p0 8 = 1 := if_neg (by rw [← ex_50, ← ex_51]; exact c_52)
              have h16 : sp_by p0 16 = 0 := if_pos (by rw [← ex_55, ← ex_56]; exact c_57)
              have h24 : sp_by p0 24 = 1 := if_neg (by rw [← ex_67, ← ex_68]; exact c_69)
              show (2 : Int32) = nI (sp_cnt p0)
              unfold sp_cnt
              rw [h24, h16, h8, h0]
              rfl), trivial⟩, hS.F ht⟩) hS.2.2 dX11_bytesOf_37
        · refine lv_iconst (v := 0) hx hb dX11_bytesOf_23 (by decide) ?_
          refine lv_goto (tgt := 28) hx hb dX11_bytesOf_24 (by decide) ?_
          refine lv_iadd hx hb dX11_bytesOf_28 ?_
          refine lv_topi (fun x_71 ex_71 => ?_)
          obtain rfl : x_71 = 1 := ex_71.trans (by first | rfl | decide)
          refine lv_istore_n (lv' := [(1, .int 1), (2, .int 3), (0, .int p0)]) hx hb dX11_bytesOf_29 rfl hl (by decide) rfl (fun ls hl => ?_)
          refine lv_iinc (v := 4) (lv' := [(2, .int 4), (1, .int 1), (0, .int p0)]) hx hb dX11_bytesOf_30 hl (k := 1) rfl (by decide) (by decide) rfl (fun ls hl => ?_)
          refine lv_goto (tgt := 4) hx hb dX11_bytesOf_33 (by decide) ?_
          refine lv_iload_n hx hb dX11_bytesOf_4 rfl (lv_at hl 0 rfl) ?_
          refine lv_iconst (v := 4) hx hb dX11_bytesOf_5 (by decide) ?_
          refine lv_icmp_ge (tgt := 36) hx hb dX11_bytesOf_6 (by decide) (fun _ => ?_) (fun c => absurd (by decide) c)
          refine lv_iload_n hx hb dX11_bytesOf_36 rfl (lv_at hl 1 rfl) ?_
          refine W.widen (k := 0) (n := 0) (Nat.le_of_ble_eq_true rfl) (Nat.le_of_ble_eq_true rfl) ?_
          exact W.iret (v := 1) hx hb hr (fun t ht hW => ⟨⟨1, (), rfl, (by
              have h0 : sp_by p0 0 = 0 := if_pos (by rw [← ex_2, ← ex_3]; exact c_4)
              have h8 : sp_by p0 8 = 1 := if_neg (by rw [← ex_50, ← ex_51]; exact c_52)
              have h16 : sp_by p0 16 = 0 := if_pos (by rw [← ex_55, ← ex_56]; exact c_57)
              have h24 : sp_by p0 24 = 0 := if_pos (by rw [← ex_67, ← ex_68]; exact c_69)
              show (1 : Int32) = nI (sp_cnt p0)
              unfold sp_cnt
              rw [h24, h16, h8, h0]
              rfl), trivial⟩, hS.F ht⟩) hS.2.2 dX11_bytesOf_37
    · refine lv_iconst (v := 0) hx hb dX11_bytesOf_23 (by decide) ?_
      refine lv_goto (tgt := 28) hx hb dX11_bytesOf_24 (by decide) ?_
      refine lv_iadd hx hb dX11_bytesOf_28 ?_
      refine lv_topi (fun x_72 ex_72 => ?_)
      obtain rfl : x_72 = 0 := ex_72.trans (by first | rfl | decide)
      refine lv_istore_n (lv' := [(1, .int 0), (2, .int 1), (0, .int p0)]) hx hb dX11_bytesOf_29 rfl hl (by decide) rfl (fun ls hl => ?_)
      refine lv_iinc (v := 2) (lv' := [(2, .int 2), (1, .int 0), (0, .int p0)]) hx hb dX11_bytesOf_30 hl (k := 1) rfl (by decide) (by decide) rfl (fun ls hl => ?_)
      refine lv_goto (tgt := 4) hx hb dX11_bytesOf_33 (by decide) ?_
      refine lv_iload_n hx hb dX11_bytesOf_4 rfl (lv_at hl 0 rfl) ?_
      refine lv_iconst (v := 4) hx hb dX11_bytesOf_5 (by decide) ?_
      refine lv_icmp_ge (tgt := 36) hx hb dX11_bytesOf_6 (by decide) (fun c => absurd c (by decide)) (fun _ => ?_)
      refine lv_iload_n hx hb dX11_bytesOf_9 rfl (lv_at hl 1 rfl) ?_
      refine lv_iload_n hx hb dX11_bytesOf_10 rfl (lv_at hl 2 rfl) ?_
      refine lv_bipush (v := 8) hx hb dX11_bytesOf_11 (by decide) ?_
      refine lv_iload_n hx hb dX11_bytesOf_13 rfl (lv_at hl 0 rfl) ?_
      refine lv_imul hx hb dX11_bytesOf_14 ?_
      refine lv_topi (fun x_73 ex_73 => ?_)
      obtain rfl : x_73 = 16 := ex_73.trans (by first | rfl | decide)
      refine lv_ishr hx hb dX11_bytesOf_15 ?_
      refine lv_topi (fun x_74 ex_74 => ?_)
      refine lv_sipush (v := 255) hx hb dX11_bytesOf_16 (by decide) ?_
      refine lv_iand hx hb dX11_bytesOf_19 ?_
      refine lv_topi (fun x_75 ex_75 => ?_)
      refine lv_if_ne (tgt := 27) hx hb dX11_bytesOf_20 (by decide) (fun c_76 => ?_) (fun c_76 => ?_)
      · refine lv_iconst (v := 1) hx hb dX11_bytesOf_27 (by decide) ?_
        refine lv_iadd hx hb dX11_bytesOf_28 ?_
        refine lv_topi (fun x_77 ex_77 => ?_)
        obtain rfl : x_77 = 1 := ex_77.trans (by first | rfl | decide)
        refine lv_istore_n (lv' := [(1, .int 1), (2, .int 2), (0, .int p0)]) hx hb dX11_bytesOf_29 rfl hl (by decide) rfl (fun ls hl => ?_)
        refine lv_iinc (v := 3) (lv' := [(2, .int 3), (1, .int 1), (0, .int p0)]) hx hb dX11_bytesOf_30 hl (k := 1) rfl (by decide) (by decide) rfl (fun ls hl => ?_)
        refine lv_goto (tgt := 4) hx hb dX11_bytesOf_33 (by decide) ?_
        refine lv_iload_n hx hb dX11_bytesOf_4 rfl (lv_at hl 0 rfl) ?_
        refine lv_iconst (v := 4) hx hb dX11_bytesOf_5 (by decide) ?_
        refine lv_icmp_ge (tgt := 36) hx hb dX11_bytesOf_6 (by decide) (fun c => absurd c (by decide)) (fun _ => ?_)
        refine lv_iload_n hx hb dX11_bytesOf_9 rfl (lv_at hl 1 rfl) ?_
        refine lv_iload_n hx hb dX11_bytesOf_10 rfl (lv_at hl 2 rfl) ?_
        refine lv_bipush (v := 8) hx hb dX11_bytesOf_11 (by decide) ?_
        refine lv_iload_n hx hb dX11_bytesOf_13 rfl (lv_at hl 0 rfl) ?_
        refine lv_imul hx hb dX11_bytesOf_14 ?_
        refine lv_topi (fun x_78 ex_78 => ?_)
        obtain rfl : x_78 = 24 := ex_78.trans (by first | rfl | decide)
        refine lv_ishr hx hb dX11_bytesOf_15 ?_
        refine lv_topi (fun x_79 ex_79 => ?_)
        refine lv_sipush (v := 255) hx hb dX11_bytesOf_16 (by decide) ?_
        refine lv_iand hx hb dX11_bytesOf_19 ?_
        refine lv_topi (fun x_80 ex_80 => ?_)
        refine lv_if_ne (tgt := 27) hx hb dX11_bytesOf_20 (by decide) (fun c_81 => ?_) (fun c_81 => ?_)
        · refine lv_iconst (v := 1) hx hb dX11_bytesOf_27 (by decide) ?_
          refine lv_iadd hx hb dX11_bytesOf_28 ?_
          refine lv_topi (fun x_82 ex_82 => ?_)
          obtain rfl : x_82 = 2 := ex_82.trans (by first | rfl | decide)
          refine lv_istore_n (lv' := [(1, .int 2), (2, .int 3), (0, .int p0)]) hx hb dX11_bytesOf_29 rfl hl (by decide) rfl (fun ls hl => ?_)
          refine lv_iinc (v := 4) (lv' := [(2, .int 4), (1, .int 2), (0, .int p0)]) hx hb dX11_bytesOf_30 hl (k := 1) rfl (by decide) (by decide) rfl (fun ls hl => ?_)
          refine lv_goto (tgt := 4) hx hb dX11_bytesOf_33 (by decide) ?_
          refine lv_iload_n hx hb dX11_bytesOf_4 rfl (lv_at hl 0 rfl) ?_
          refine lv_iconst (v := 4) hx hb dX11_bytesOf_5 (by decide) ?_
          refine lv_icmp_ge (tgt := 36) hx hb dX11_bytesOf_6 (by decide) (fun _ => ?_) (fun c => absurd (by decide) c)
          refine lv_iload_n hx hb dX11_bytesOf_36 rfl (lv_at hl 1 rfl) ?_
          refine W.widen (k := 0) (n := 0) (Nat.le_of_ble_eq_true rfl) (Nat.le_of_ble_eq_true rfl) ?_
          exact W.iret (v := 2) hx hb hr (fun t ht hW => ⟨⟨2, (), rfl, (by
              have h0 : sp_by p0 0 = 0 := if_pos (by rw [← ex_2, ← ex_3]; exact c_4)
              have h8 : sp_by p0 8 = 0 := if_pos (by rw [← ex_50, ← ex_51]; exact c_52)
              have h16 : sp_by p0 16 = 1 := if_neg (by rw [← ex_74, ← ex_75]; exact c_76)
              have h24 : sp_by p0 24 = 1 := if_neg (by rw [← ex_79, ← ex_80]; exact c_81)
              show (2 : Int32) = nI (sp_cnt p0)
              unfold sp_cnt
              rw [h24, h16, h8, h0]
              rfl), trivial⟩, hS.F ht⟩) hS.2.2 dX11_bytesOf_37
        · refine lv_iconst (v := 0) hx hb dX11_bytesOf_23 (by decide) ?_
          refine lv_goto (tgt := 28) hx hb dX11_bytesOf_24 (by decide) ?_
          refine lv_iadd hx hb dX11_bytesOf_28 ?_
          refine lv_topi (fun x_83 ex_83 => ?_)
          obtain rfl : x_83 = 1 := ex_83.trans (by first | rfl | decide)
          refine lv_istore_n (lv' := [(1, .int 1), (2, .int 3), (0, .int p0)]) hx hb dX11_bytesOf_29 rfl hl (by decide) rfl (fun ls hl => ?_)
          refine lv_iinc (v := 4) (lv' := [(2, .int 4), (1, .int 1), (0, .int p0)]) hx hb dX11_bytesOf_30 hl (k := 1) rfl (by decide) (by decide) rfl (fun ls hl => ?_)
          refine lv_goto (tgt := 4) hx hb dX11_bytesOf_33 (by decide) ?_
          refine lv_iload_n hx hb dX11_bytesOf_4 rfl (lv_at hl 0 rfl) ?_
          refine lv_iconst (v := 4) hx hb dX11_bytesOf_5 (by decide) ?_
          refine lv_icmp_ge (tgt := 36) hx hb dX11_bytesOf_6 (by decide) (fun _ => ?_) (fun c => absurd (by decide) c)
          refine lv_iload_n hx hb dX11_bytesOf_36 rfl (lv_at hl 1 rfl) ?_
          refine W.widen (k := 0) (n := 0) (Nat.le_of_ble_eq_true rfl) (Nat.le_of_ble_eq_true rfl) ?_
          exact W.iret (v := 1) hx hb hr (fun t ht hW => ⟨⟨1, (), rfl, (by
              have h0 : sp_by p0 0 = 0 := if_pos (by rw [← ex_2, ← ex_3]; exact c_4)
              have h8 : sp_by p0 8 = 0 := if_pos (by rw [← ex_50, ← ex_51]; exact c_52)
              have h16 : sp_by p0 16 = 1 := if_neg (by rw [← ex_74, ← ex_75]; exact c_76)
              have h24 : sp_by p0 24 = 0 := if_pos (by rw [← ex_79, ← ex_80]; exact c_81)
              show (1 : Int32) = nI (sp_cnt p0)
              unfold sp_cnt
              rw [h24, h16, h8, h0]
              rfl), trivial⟩, hS.F ht⟩) hS.2.2 dX11_bytesOf_37
      · refine lv_iconst (v := 0) hx hb dX11_bytesOf_23 (by decide) ?_
        refine lv_goto (tgt := 28) hx hb dX11_bytesOf_24 (by decide) ?_
        refine lv_iadd hx hb dX11_bytesOf_28 ?_
        refine lv_topi (fun x_84 ex_84 => ?_)
        obtain rfl : x_84 = 0 := ex_84.trans (by first | rfl | decide)
        refine lv_istore_n (lv' := [(1, .int 0), (2, .int 2), (0, .int p0)]) hx hb dX11_bytesOf_29 rfl hl (by decide) rfl (fun ls hl => ?_)
        refine lv_iinc (v := 3) (lv' := [(2, .int 3), (1, .int 0), (0, .int p0)]) hx hb dX11_bytesOf_30 hl (k := 1) rfl (by decide) (by decide) rfl (fun ls hl => ?_)
        refine lv_goto (tgt := 4) hx hb dX11_bytesOf_33 (by decide) ?_
        refine lv_iload_n hx hb dX11_bytesOf_4 rfl (lv_at hl 0 rfl) ?_
        refine lv_iconst (v := 4) hx hb dX11_bytesOf_5 (by decide) ?_
        refine lv_icmp_ge (tgt := 36) hx hb dX11_bytesOf_6 (by decide) (fun c => absurd c (by decide)) (fun _ => ?_)
        refine lv_iload_n hx hb dX11_bytesOf_9 rfl (lv_at hl 1 rfl) ?_
        refine lv_iload_n hx hb dX11_bytesOf_10 rfl (lv_at hl 2 rfl) ?_
        refine lv_bipush (v := 8) hx hb dX11_bytesOf_11 (by decide) ?_
        refine lv_iload_n hx hb dX11_bytesOf_13 rfl (lv_at hl 0 rfl) ?_
        refine lv_imul hx hb dX11_bytesOf_14 ?_
        refine lv_topi (fun x_85 ex_85 => ?_)
        obtain rfl : x_85 = 24 := ex_85.trans (by first | rfl | decide)
        refine lv_ishr hx hb dX11_bytesOf_15 ?_
        refine lv_topi (fun x_86 ex_86 => ?_)
        refine lv_sipush (v := 255) hx hb dX11_bytesOf_16 (by decide) ?_
        refine lv_iand hx hb dX11_bytesOf_19 ?_
        refine lv_topi (fun x_87 ex_87 => ?_)
        refine lv_if_ne (tgt := 27) hx hb dX11_bytesOf_20 (by decide) (fun c_88 => ?_) (fun c_88 => ?_)
        · refine lv_iconst (v := 1) hx hb dX11_bytesOf_27 (by decide) ?_
          refine lv_iadd hx hb dX11_bytesOf_28 ?_
          refine lv_topi (fun x_89 ex_89 => ?_)
          obtain rfl : x_89 = 1 := ex_89.trans (by first | rfl | decide)
          refine lv_istore_n (lv' := [(1, .int 1), (2, .int 3), (0, .int p0)]) hx hb dX11_bytesOf_29 rfl hl (by decide) rfl (fun ls hl => ?_)
          refine lv_iinc (v := 4) (lv' := [(2, .int 4), (1, .int 1), (0, .int p0)]) hx hb dX11_bytesOf_30 hl (k := 1) rfl (by decide) (by decide) rfl (fun ls hl => ?_)
          refine lv_goto (tgt := 4) hx hb dX11_bytesOf_33 (by decide) ?_
          refine lv_iload_n hx hb dX11_bytesOf_4 rfl (lv_at hl 0 rfl) ?_
          refine lv_iconst (v := 4) hx hb dX11_bytesOf_5 (by decide) ?_
          refine lv_icmp_ge (tgt := 36) hx hb dX11_bytesOf_6 (by decide) (fun _ => ?_) (fun c => absurd (by decide) c)
          refine lv_iload_n hx hb dX11_bytesOf_36 rfl (lv_at hl 1 rfl) ?_
          refine W.widen (k := 0) (n := 0) (Nat.le_of_ble_eq_true rfl) (Nat.le_of_ble_eq_true rfl) ?_
          exact W.iret (v := 1) hx hb hr (fun t ht hW => ⟨⟨1, (), rfl, (by
              have h0 : sp_by p0 0 = 0 := if_pos (by rw [← ex_2, ← ex_3]; exact c_4)
              have h8 : sp_by p0 8 = 0 := if_pos (by rw [← ex_50, ← ex_51]; exact c_52)
              have h16 : sp_by p0 16 = 0 := if_pos (by rw [← ex_74, ← ex_75]; exact c_76)
              have h24 : sp_by p0 24 = 1 := if_neg (by rw [← ex_86, ← ex_87]; exact c_88)
              show (1 : Int32) = nI (sp_cnt p0)
              unfold sp_cnt
              rw [h24, h16, h8, h0]
              rfl), trivial⟩, hS.F ht⟩) hS.2.2 dX11_bytesOf_37
        · refine lv_iconst (v := 0) hx hb dX11_bytesOf_23 (by decide) ?_
          refine lv_goto (tgt := 28) hx hb dX11_bytesOf_24 (by decide) ?_
          refine lv_iadd hx hb dX11_bytesOf_28 ?_
          refine lv_topi (fun x_90 ex_90 => ?_)
          obtain rfl : x_90 = 0 := ex_90.trans (by first | rfl | decide)
          refine lv_istore_n (lv' := [(1, .int 0), (2, .int 3), (0, .int p0)]) hx hb dX11_bytesOf_29 rfl hl (by decide) rfl (fun ls hl => ?_)
          refine lv_iinc (v := 4) (lv' := [(2, .int 4), (1, .int 0), (0, .int p0)]) hx hb dX11_bytesOf_30 hl (k := 1) rfl (by decide) (by decide) rfl (fun ls hl => ?_)
          refine lv_goto (tgt := 4) hx hb dX11_bytesOf_33 (by decide) ?_
          refine lv_iload_n hx hb dX11_bytesOf_4 rfl (lv_at hl 0 rfl) ?_
          refine lv_iconst (v := 4) hx hb dX11_bytesOf_5 (by decide) ?_
          refine lv_icmp_ge (tgt := 36) hx hb dX11_bytesOf_6 (by decide) (fun _ => ?_) (fun c => absurd (by decide) c)
          refine lv_iload_n hx hb dX11_bytesOf_36 rfl (lv_at hl 1 rfl) ?_
          refine W.widen (k := 0) (n := 0) (Nat.le_of_ble_eq_true rfl) (Nat.le_of_ble_eq_true rfl) ?_
          exact W.iret (v := 0) hx hb hr (fun t ht hW => ⟨⟨0, (), rfl, (by
              have h0 : sp_by p0 0 = 0 := if_pos (by rw [← ex_2, ← ex_3]; exact c_4)
              have h8 : sp_by p0 8 = 0 := if_pos (by rw [← ex_50, ← ex_51]; exact c_52)
              have h16 : sp_by p0 16 = 0 := if_pos (by rw [← ex_74, ← ex_75]; exact c_76)
              have h24 : sp_by p0 24 = 0 := if_pos (by rw [← ex_86, ← ex_87]; exact c_88)
              show (0 : Int32) = nI (sp_cnt p0)
              unfold sp_cnt
              rw [h24, h16, h8, h0]
              rfl), trivial⟩, hS.F ht⟩) hS.2.2 dX11_bytesOf_37
set_option maxHeartbeats 4000000 in
set_option maxRecDepth 100000 in
theorem c_X9_take (l : Launch) (dC : Nat → ClassId) (dI : Nat → Nat → Nat) (cB cI cJ : ClassId) (sz : Nat) (xTape tB : Nat) (p0 : Int32) (n : Nat) (fb : Nat → Int32) (hn : n ≤ 596) : Met l yX9_take wsX9_take ({ frames := 1, cells := 0, slots := 0, locals := 24 }) (va_Pc [.ref xTape, .int p0] (fun U => U.heap.size = sz ∧ va_P (dC, dI) vwCl [(xTape, .inr (9, [.ref tB, .int (nI n)])), (tB, .inl (cB, 600, (.inl fb)))] U.heap ∧ va_K (dC, dI) vwCl [(cB, .byte), (cI, .int), (cJ, .long)] U ∧ va_D (fun _ => True) [(xTape, .inr (9, [.ref tB, .int (nI n)])), (tB, .inl (cB, 600, (.inl fb)))])) (va_Qv (fun _ : Unit => True) (fun _ t => ∃ fz : Nat → Int32, va_P (dC, dI) vwCl [(xTape, .inr (9, [.ref tB, .int (nI (n + sp_cnt p0))])), (tB, .inl (cB, 600, (.inl fz)))] t.heap ∧ va_K (dC, dI) vwCl [(cB, .byte), (cI, .int), (cJ, .long)] t ∧ va_D (va_A [(xTape, .inr (9, [.ref tB, .int (nI n)])), (tB, .inl (cB, 600, (.inl fb)))] sz) [(xTape, .inr (9, [.ref tB, .int (nI (n + sp_cnt p0))])), (tB, .inl (cB, 600, (.inl fz)))]) (va_A [(xTape, .inr (9, [.ref tB, .int (nI n)])), (tB, .inl (cB, 600, (.inl fb)))] sz)) 0 0 (va_A [(xTape, .inr (9, [.ref tB, .int (nI n)])), (tB, .inl (cB, 600, (.inl fb)))] sz) := by
  refine Met.ofW (cc := cX9_take) (maxL := 4) (ret := none) (by decide) rfl ?_
  intro p e s m args below meth c s₁ B hml hv
  obtain ⟨rfl, hsz, hP, hK, hD0⟩ := hv
  have hx := B.exec
  have hb := B.bytes
  have hr := B.returns
  have hts := atoms_spec (ws := wsX9_take) B.pre
  have hown : s.vm.findClass RX9 = some m.cls := findClass_of_methodNamed B.named
  have hlocks := B.notSynchronized
  have hiX9 : ∀ w ∈ u_ws RX9 TX9 2, w ∈ wsX9_take := by decide +kernel
  subst hsz
  have hD := hD0.self (sz := s.heap.size)
  generalize hAe : va_A [(xTape, .inr (9, [.ref tB, .int (nI n)])), (tB, .inl (cB, 600, (.inl fb)))] s.heap.size = A at hD ⊢
  have hA : ∀ q : Nat, s.heap.size ≤ q → A q := fun q h => by rw [← hAe]; exact Or.inr h
  have hS : va_S A s.heap s.heap [] := va_S.rf
  have hP : va_P (dC, dI) vwCl [(xTape, .inr (9, [.ref tB, .int (nI n)])), (tB, .inl (cB, 600, (.inl fb)))] s.heap := hP
  have hl := lv_entry ([.ref xTape, .int p0]) (n := 4) (Nat.le_of_ble_eq_true rfl)
  rw [lg_entry_eq]
  generalize (lg_sl ([.ref xTape, .int p0]) ++ List.replicate (4 - (lg_sl ([.ref xTape, .int p0])).length) Slot.unset).toArray = ls at hl ⊢
  have hl : lv_has ls 4 [(0, .ref xTape), (1, .int p0)] := hl
  refine lv_bipush (v := 24) hx hb dX9_take_0 (by decide) ?_
  refine lv_istore_n (lv' := [(2, .int 24), (0, .ref xTape), (1, .int p0)]) hx hb dX9_take_2 rfl hl (by decide) rfl (fun ls hl => ?_)
  refine lv_iload_n hx hb dX9_take_3 rfl (lv_at hl 0 rfl) ?_
  refine lv_if_lt (tgt := 56) hx hb dX9_take_4 (by decide) (fun c => absurd c (by decide)) (fun _ => ?_)
  refine lv_iload_n hx hb dX9_take_7 rfl (lv_at hl 2 rfl) ?_
  refine lv_iload_n hx hb dX9_take_8 rfl (lv_at hl 0 rfl) ?_
  refine lv_ishr hx hb dX9_take_9 ?_
  refine lv_topi (fun x_1 ex_1 => ?_)
  refine lv_sipush (v := 255) hx hb dX9_take_10 (by decide) ?_
  refine lv_iand hx hb dX9_take_13 ?_
  refine lv_topi (fun x_2 ex_2 => ?_)
  refine lv_istore_n (lv' := [(3, .int x_2), (2, .int 24), (0, .ref xTape), (1, .int p0)]) hx hb dX9_take_14 rfl hl (by decide) rfl (fun ls hl => ?_)
  refine lv_iload_n hx hb dX9_take_15 rfl (lv_at hl 0 rfl) ?_
  refine lv_if_eq (tgt := 50) hx hb dX9_take_16 (by decide) (fun c_3 => ?_) (fun c_3 => ?_)
  · refine lv_iinc (v := 16) (lv' := [(2, .int 16), (3, .int x_2), (0, .ref xTape), (1, .int p0)]) hx hb dX9_take_50 hl (k := 1) rfl (by decide) (by decide) rfl (fun ls hl => ?_)
    refine lv_goto (tgt := 3) hx hb dX9_take_53 (by decide) ?_
    refine lv_iload_n hx hb dX9_take_3 rfl (lv_at hl 0 rfl) ?_
    refine lv_if_lt (tgt := 56) hx hb dX9_take_4 (by decide) (fun c => absurd c (by decide)) (fun _ => ?_)
    refine lv_iload_n hx hb dX9_take_7 rfl (lv_at hl 3 rfl) ?_
    refine lv_iload_n hx hb dX9_take_8 rfl (lv_at hl 0 rfl) ?_
    refine lv_ishr hx hb dX9_take_9 ?_
    refine lv_topi (fun x_4 ex_4 => ?_)
    refine lv_sipush (v := 255) hx hb dX9_take_10 (by decide) ?_
    refine lv_iand hx hb dX9_take_13 ?_
    refine lv_topi (fun x_5 ex_5 => ?_)
    refine lv_istore_n (lv' := [(3, .int x_5), (2, .int 16), (0, .ref xTape), (1, .int p0)]) hx hb dX9_take_14 rfl hl (by decide) rfl (fun ls hl => ?_)
    refine lv_iload_n hx hb dX9_take_15 rfl (lv_at hl 0 rfl) ?_
    refine lv_if_eq (tgt := 50) hx hb dX9_take_16 (by decide) (fun c_6 => ?_) (fun c_6 => ?_)
    · refine lv_iinc (v := 8) (lv' := [(2, .int 8), (3, .int x_5), (0, .ref xTape), (1, .int p0)]) hx hb dX9_take_50 hl (k := 1) rfl (by decide) (by decide) rfl (fun ls hl => ?_)
      refine lv_goto (tgt := 3) hx hb dX9_take_53 (by decide) ?_
      refine lv_iload_n hx hb dX9_take_3 rfl (lv_at hl 0 rfl) ?_
      refine lv_if_lt (tgt := 56) hx hb dX9_take_4 (by decide) (fun c => absurd c (by decide)) (fun _ => ?_)
      refine lv_iload_n hx hb dX9_take_7 rfl (lv_at hl 3 rfl) ?_
      refine lv_iload_n hx hb dX9_take_8 rfl (lv_at hl 0 rfl) ?_
      refine lv_ishr hx hb dX9_take_9 ?_
      refine lv_topi (fun x_7 ex_7 => ?_)
      refine lv_sipush (v := 255) hx hb dX9_take_10 (by decide) ?_
      refine lv_iand hx hb dX9_take_13 ?_
      refine lv_topi (fun x_8 ex_8 => ?_)
      refine lv_istore_n (lv' := [(3, .int x_8), (2, .int 8), (0, .ref xTape), (1, .int p0)]) hx hb dX9_take_14 rfl hl (by decide) rfl (fun ls hl => ?_)
      refine lv_iload_n hx hb dX9_take_15 rfl (lv_at hl 0 rfl) ?_
      refine lv_if_eq (tgt := 50) hx hb dX9_take_16 (by decide) (fun c_9 => ?_) (fun c_9 => ?_)
      · refine lv_iinc (v := 0) (lv' := [(2, .int 0), (3, .int x_8), (0, .ref xTape), (1, .int p0)]) hx hb dX9_take_50 hl (k := 1) rfl (by decide) (by decide) rfl (fun ls hl => ?_)
        refine lv_goto (tgt := 3) hx hb dX9_take_53 (by decide) ?_
        refine lv_iload_n hx hb dX9_take_3 rfl (lv_at hl 0 rfl) ?_
        refine lv_if_lt (tgt := 56) hx hb dX9_take_4 (by decide) (fun c => absurd c (by decide)) (fun _ => ?_)
        refine lv_iload_n hx hb dX9_take_7 rfl (lv_at hl 3 rfl) ?_
        refine lv_iload_n hx hb dX9_take_8 rfl (lv_at hl 0 rfl) ?_
        refine lv_ishr hx hb dX9_take_9 ?_
        refine lv_topi (fun x_10 ex_10 => ?_)
        refine lv_sipush (v := 255) hx hb dX9_take_10 (by decide) ?_
        refine lv_iand hx hb dX9_take_13 ?_
        refine lv_topi (fun x_11 ex_11 => ?_)
        refine lv_istore_n (lv' := [(3, .int x_11), (2, .int 0), (0, .ref xTape), (1, .int p0)]) hx hb dX9_take_14 rfl hl (by decide) rfl (fun ls hl => ?_)
        refine lv_iload_n hx hb dX9_take_15 rfl (lv_at hl 0 rfl) ?_
        refine lv_if_eq (tgt := 50) hx hb dX9_take_16 (by decide) (fun c_12 => ?_) (fun c_12 => ?_)
        · refine lv_iinc (v := (-8)) (lv' := [(2, .int (-8)), (3, .int x_11), (0, .ref xTape), (1, .int p0)]) hx hb dX9_take_50 hl (k := 1) rfl (by decide) (by decide) rfl (fun ls hl => ?_)
          refine lv_goto (tgt := 3) hx hb dX9_take_53 (by decide) ?_
          refine lv_iload_n hx hb dX9_take_3 rfl (lv_at hl 0 rfl) ?_
          refine lv_if_lt (tgt := 56) hx hb dX9_take_4 (by decide) (fun _ => ?_) (fun c => absurd (by decide) c)
          have h24 : sp_by p0 24 = 0 := if_pos (by rw [← ex_1, ← ex_2]; exact c_3)
          have h16 : sp_by p0 16 = 0 := if_pos (by rw [← ex_4, ← ex_5]; exact c_6)
          have h8 : sp_by p0 8 = 0 := if_pos (by rw [← ex_7, ← ex_8]; exact c_9)
          have h0 : sp_by p0 0 = 0 := if_pos (by rw [← ex_10, ← ex_11]; exact c_12)
          have hc : sp_cnt p0 = 0 := by unfold sp_cnt; rw [h24, h16, h8, h0]
          have hP9 := hP.sub (ws' := [(xTape, .inr (9, [.ref tB, .int (nI (n + 0))])), (tB, .inl (cB, 600, (.inl fb)))]) [0, 1] rfl
          have hD9 := hD.sub (ws' := [(xTape, .inr (9, [.ref tB, .int (nI (n + 0))])), (tB, .inl (cB, 600, (.inl fb)))]) [0, 1] (by decide) rfl
          exact W.vret hx hb hr (fun t ht hW => ⟨⟨(), rfl, trivial, fb, by rw [ht, hc]; exact hP9, va_K.moved hW.alike hK, by rw [hc]; exact hD9⟩, hS.F ht⟩) hS.2.2 dX9_take_56
        · refine lv_aload_n hx hb dX9_take_19 rfl (lv_at hl 2 rfl) ?_
          refine va_get (D := (dC, dI)) (ci := 9) (v := .int (nI n)) (C := RX9) (T := TX9) (N := 2) hx hb hts hiX9 hown hK hP 0 rfl rfl 1 (by decide) (hts (.fieldLink RX9 13 "ScissorsTable$Tape" "length" "I") (by decide +kernel)) (fun _ h9 => h9) rfl dX9_take_20 ?_
          refine lv_sipush (v := 600) hx hb dX9_take_23 (by decide) ?_
          refine lv_icmp_ge (tgt := 50) hx hb dX9_take_26 (by decide) (fun c => absurd c (nI_ge (a := n) (b := 600) (by omega) (by decide))) (fun _ => ?_)
          refine lv_aload_n hx hb dX9_take_29 rfl (lv_at hl 2 rfl) ?_
          refine va_get (D := (dC, dI)) (ci := 9) (v := .ref tB) (C := RX9) (T := TX9) (N := 2) hx hb hts hiX9 hown hK hP 0 rfl rfl 0 (by decide) (hts (.fieldLink RX9 9 "ScissorsTable$Tape" "bytes" "[B") (by decide +kernel)) (fun _ h9 => h9) rfl dX9_take_30 ?_
          refine lv_aload_n hx hb dX9_take_33 rfl (lv_at hl 2 rfl) ?_
          refine va_get (D := (dC, dI)) (ci := 9) (v := .int (nI n)) (C := RX9) (T := TX9) (N := 2) hx hb hts hiX9 hown hK hP 0 rfl rfl 1 (by decide) (hts (.fieldLink RX9 13 "ScissorsTable$Tape" "length" "I") (by decide +kernel)) (fun _ h9 => h9) rfl dX9_take_34 ?_
          refine lv_iload_n hx hb dX9_take_37 rfl (lv_at hl 0 rfl) ?_
          refine lv_i2b hx hb dX9_take_38 rfl ?_
          refine lv_topi (fun x_13 ex_13 => ?_)
          refine va_bast hx hb hK hP hD hS 1 0 rfl rfl (vp_in_nI (by omega) (by decide)) dX9_take_39 (fun H locs hP hD hS => ?_)
          generalize upd fb (nI n).toNatClampNeg (vp_nar .byte x_13) = fb_14 at hP hD
          have hP : va_P (dC, dI) vwCl [(xTape, .inr (9, [.ref tB, .int (nI n)])), (tB, .inl (cB, 600, (.inl fb_14)))] H := hP
          have hD : va_D A [(xTape, .inr (9, [.ref tB, .int (nI n)])), (tB, .inl (cB, 600, (.inl fb_14)))] := hD
          refine lv_aload_n hx hb dX9_take_40 rfl (lv_at hl 2 rfl) ?_
          refine lv_dup hx hb dX9_take_41 rfl ?_
          refine va_get (D := (dC, dI)) (ci := 9) (v := .int (nI n)) (C := RX9) (T := TX9) (N := 2) hx hb hts hiX9 hown hK hP 0 rfl rfl 1 (by decide) (hts (.fieldLink RX9 13 "ScissorsTable$Tape" "length" "I") (by decide +kernel)) (fun _ h9 => h9) rfl dX9_take_42 ?_
          refine lv_iconst (v := 1) hx hb dX9_take_45 (by decide) ?_
          refine lv_iadd hx hb dX9_take_46 ?_
          refine lv_topi (fun x_15 ex_15 => ?_)
          obtain rfl : x_15 = nI (n + 1) := ex_15.trans (nI_add n 1)
          refine va_put (D := (dC, dI)) (ci := 9) (v := .int (nI (n + 1))) (ty := .int) (C := RX9) (T := TX9) (N := 2) hx hb hts hiX9 tyX9 tyX9_ok nmX9 hown hK hP hD hS 0 rfl rfl 1 (by decide) (hts (.fieldLink RX9 13 "ScissorsTable$Tape" "length" "I") (by decide +kernel)) (fun _ h9 => h9) rfl (by decide +kernel) rfl rfl (Nat.le_of_ble_eq_true rfl) dX9_take_47 (fun H locs hP hD hS => ?_)
          have hP : va_P (dC, dI) vwCl [(xTape, .inr (9, [.ref tB, .int (nI (n + 1))])), (tB, .inl (cB, 600, (.inl fb_14)))] H := hP
          have hD : va_D A [(xTape, .inr (9, [.ref tB, .int (nI (n + 1))])), (tB, .inl (cB, 600, (.inl fb_14)))] := hD
          refine lv_iinc (v := (-8)) (lv' := [(2, .int (-8)), (3, .int x_11), (0, .ref xTape), (1, .int p0)]) hx hb dX9_take_50 hl (k := 1) rfl (by decide) (by decide) rfl (fun ls hl => ?_)
          refine lv_goto (tgt := 3) hx hb dX9_take_53 (by decide) ?_
          refine lv_iload_n hx hb dX9_take_3 rfl (lv_at hl 0 rfl) ?_
          refine lv_if_lt (tgt := 56) hx hb dX9_take_4 (by decide) (fun _ => ?_) (fun c => absurd (by decide) c)
          have h24 : sp_by p0 24 = 0 := if_pos (by rw [← ex_1, ← ex_2]; exact c_3)
          have h16 : sp_by p0 16 = 0 := if_pos (by rw [← ex_4, ← ex_5]; exact c_6)
          have h8 : sp_by p0 8 = 0 := if_pos (by rw [← ex_7, ← ex_8]; exact c_9)
          have h0 : sp_by p0 0 = 1 := if_neg (by rw [← ex_10, ← ex_11]; exact c_12)
          have hc : sp_cnt p0 = 1 := by unfold sp_cnt; rw [h24, h16, h8, h0]
          have hP9 := hP.sub (ws' := [(xTape, .inr (9, [.ref tB, .int (nI (n + 1))])), (tB, .inl (cB, 600, (.inl fb_14)))]) [0, 1] rfl
          have hD9 := hD.sub (ws' := [(xTape, .inr (9, [.ref tB, .int (nI (n + 1))])), (tB, .inl (cB, 600, (.inl fb_14)))]) [0, 1] (by decide) rfl
          exact W.vret hx hb hr (fun t ht hW => ⟨⟨(), rfl, trivial, fb_14, by rw [ht, hc]; exact hP9, va_K.moved hW.alike hK, by rw [hc]; exact hD9⟩, hS.F ht⟩) hS.2.2 dX9_take_56
      · refine lv_aload_n hx hb dX9_take_19 rfl (lv_at hl 2 rfl) ?_
        refine va_get (D := (dC, dI)) (ci := 9) (v := .int (nI n)) (C := RX9) (T := TX9) (N := 2) hx hb hts hiX9 hown hK hP 0 rfl rfl 1 (by decide) (hts (.fieldLink RX9 13 "ScissorsTable$Tape" "length" "I") (by decide +kernel)) (fun _ h9 => h9) rfl dX9_take_20 ?_
        refine lv_sipush (v := 600) hx hb dX9_take_23 (by decide) ?_
        refine lv_icmp_ge (tgt := 50) hx hb dX9_take_26 (by decide) (fun c => absurd c (nI_ge (a := n) (b := 600) (by omega) (by decide))) (fun _ => ?_)
        refine lv_aload_n hx hb dX9_take_29 rfl (lv_at hl 2 rfl) ?_
        refine va_get (D := (dC, dI)) (ci := 9) (v := .ref tB) (C := RX9) (T := TX9) (N := 2) hx hb hts hiX9 hown hK hP 0 rfl rfl 0 (by decide) (hts (.fieldLink RX9 9 "ScissorsTable$Tape" "bytes" "[B") (by decide +kernel)) (fun _ h9 => h9) rfl dX9_take_30 ?_
        refine lv_aload_n hx hb dX9_take_33 rfl (lv_at hl 2 rfl) ?_
        refine va_get (D := (dC, dI)) (ci := 9) (v := .int (nI n)) (C := RX9) (T := TX9) (N := 2) hx hb hts hiX9 hown hK hP 0 rfl rfl 1 (by decide) (hts (.fieldLink RX9 13 "ScissorsTable$Tape" "length" "I") (by decide +kernel)) (fun _ h9 => h9) rfl dX9_take_34 ?_
        refine lv_iload_n hx hb dX9_take_37 rfl (lv_at hl 0 rfl) ?_
        refine lv_i2b hx hb dX9_take_38 rfl ?_
        refine lv_topi (fun x_16 ex_16 => ?_)
        refine va_bast hx hb hK hP hD hS 1 0 rfl rfl (vp_in_nI (by omega) (by decide)) dX9_take_39 (fun H locs hP hD hS => ?_)
        generalize upd fb (nI n).toNatClampNeg (vp_nar .byte x_16) = fb_17 at hP hD
        have hP : va_P (dC, dI) vwCl [(xTape, .inr (9, [.ref tB, .int (nI n)])), (tB, .inl (cB, 600, (.inl fb_17)))] H := hP
        have hD : va_D A [(xTape, .inr (9, [.ref tB, .int (nI n)])), (tB, .inl (cB, 600, (.inl fb_17)))] := hD
        refine lv_aload_n hx hb dX9_take_40 rfl (lv_at hl 2 rfl) ?_
        refine lv_dup hx hb dX9_take_41 rfl ?_
        refine va_get (D := (dC, dI)) (ci := 9) (v := .int (nI n)) (C := RX9) (T := TX9) (N := 2) hx hb hts hiX9 hown hK hP 0 rfl rfl 1 (by decide) (hts (.fieldLink RX9 13 "ScissorsTable$Tape" "length" "I") (by decide +kernel)) (fun _ h9 => h9) rfl dX9_take_42 ?_
        refine lv_iconst (v := 1) hx hb dX9_take_45 (by decide) ?_
        refine lv_iadd hx hb dX9_take_46 ?_
        refine lv_topi (fun x_18 ex_18 => ?_)
        obtain rfl : x_18 = nI (n + 1) := ex_18.trans (nI_add n 1)
        refine va_put (D := (dC, dI)) (ci := 9) (v := .int (nI (n + 1))) (ty := .int) (C := RX9) (T := TX9) (N := 2) hx hb hts hiX9 tyX9 tyX9_ok nmX9 hown hK hP hD hS 0 rfl rfl 1 (by decide) (hts (.fieldLink RX9 13 "ScissorsTable$Tape" "length" "I") (by decide +kernel)) (fun _ h9 => h9) rfl (by decide +kernel) rfl rfl (Nat.le_of_ble_eq_true rfl) dX9_take_47 (fun H locs hP hD hS => ?_)
        have hP : va_P (dC, dI) vwCl [(xTape, .inr (9, [.ref tB, .int (nI (n + 1))])), (tB, .inl (cB, 600, (.inl fb_17)))] H := hP
        have hD : va_D A [(xTape, .inr (9, [.ref tB, .int (nI (n + 1))])), (tB, .inl (cB, 600, (.inl fb_17)))] := hD
        refine lv_iinc (v := 0) (lv' := [(2, .int 0), (3, .int x_8), (0, .ref xTape), (1, .int p0)]) hx hb dX9_take_50 hl (k := 1) rfl (by decide) (by decide) rfl (fun ls hl => ?_)
        refine lv_goto (tgt := 3) hx hb dX9_take_53 (by decide) ?_
        refine lv_iload_n hx hb dX9_take_3 rfl (lv_at hl 0 rfl) ?_
        refine lv_if_lt (tgt := 56) hx hb dX9_take_4 (by decide) (fun c => absurd c (by decide)) (fun _ => ?_)
        refine lv_iload_n hx hb dX9_take_7 rfl (lv_at hl 3 rfl) ?_
        refine lv_iload_n hx hb dX9_take_8 rfl (lv_at hl 0 rfl) ?_
        refine lv_ishr hx hb dX9_take_9 ?_
        refine lv_topi (fun x_19 ex_19 => ?_)
        refine lv_sipush (v := 255) hx hb dX9_take_10 (by decide) ?_
        refine lv_iand hx hb dX9_take_13 ?_
        refine lv_topi (fun x_20 ex_20 => ?_)
        refine lv_istore_n (lv' := [(3, .int x_20), (2, .int 0), (0, .ref xTape), (1, .int p0)]) hx hb dX9_take_14 rfl hl (by decide) rfl (fun ls hl => ?_)
        refine lv_iload_n hx hb dX9_take_15 rfl (lv_at hl 0 rfl) ?_
        refine lv_if_eq (tgt := 50) hx hb dX9_take_16 (by decide) (fun c_21 => ?_) (fun c_21 => ?_)
        · refine lv_iinc (v := (-8)) (lv' := [(2, .int (-8)), (3, .int x_20), (0, .ref xTape), (1, .int p0)]) hx hb dX9_take_50 hl (k := 1) rfl (by decide) (by decide) rfl (fun ls hl => ?_)
          refine lv_goto (tgt := 3) hx hb dX9_take_53 (by decide) ?_
          refine lv_iload_n hx hb dX9_take_3 rfl (lv_at hl 0 rfl) ?_
          refine lv_if_lt (tgt := 56) hx hb dX9_take_4 (by decide) (fun _ => ?_) (fun c => absurd (by decide) c)
          have h24 : sp_by p0 24 = 0 := if_pos (by rw [← ex_1, ← ex_2]; exact c_3)
          have h16 : sp_by p0 16 = 0 := if_pos (by rw [← ex_4, ← ex_5]; exact c_6)
          have h8 : sp_by p0 8 = 1 := if_neg (by rw [← ex_7, ← ex_8]; exact c_9)
          have h0 : sp_by p0 0 = 0 := if_pos (by rw [← ex_19, ← ex_20]; exact c_21)
          have hc : sp_cnt p0 = 1 := by unfold sp_cnt; rw [h24, h16, h8, h0]
          have hP9 := hP.sub (ws' := [(xTape, .inr (9, [.ref tB, .int (nI (n + 1))])), (tB, .inl (cB, 600, (.inl fb_17)))]) [0, 1] rfl
          have hD9 := hD.sub (ws' := [(xTape, .inr (9, [.ref tB, .int (nI (n + 1))])), (tB, .inl (cB, 600, (.inl fb_17)))]) [0, 1] (by decide) rfl
          exact W.vret hx hb hr (fun t ht hW => ⟨⟨(), rfl, trivial, fb_17, by rw [ht, hc]; exact hP9, va_K.moved hW.alike hK, by rw [hc]; exact hD9⟩, hS.F ht⟩) hS.2.2 dX9_take_56
        · refine lv_aload_n hx hb dX9_take_19 rfl (lv_at hl 2 rfl) ?_
          refine va_get (D := (dC, dI)) (ci := 9) (v := .int (nI (n + 1))) (C := RX9) (T := TX9) (N := 2) hx hb hts hiX9 hown hK hP 0 rfl rfl 1 (by decide) (hts (.fieldLink RX9 13 "ScissorsTable$Tape" "length" "I") (by decide +kernel)) (fun _ h9 => h9) rfl dX9_take_20 ?_
          refine lv_sipush (v := 600) hx hb dX9_take_23 (by decide) ?_
          refine lv_icmp_ge (tgt := 50) hx hb dX9_take_26 (by decide) (fun c => absurd c (nI_ge (a := (n + 1)) (b := 600) (by omega) (by decide))) (fun _ => ?_)
          refine lv_aload_n hx hb dX9_take_29 rfl (lv_at hl 2 rfl) ?_
          refine va_get (D := (dC, dI)) (ci := 9) (v := .ref tB) (C := RX9) (T := TX9) (N := 2) hx hb hts hiX9 hown hK hP 0 rfl rfl 0 (by decide) (hts (.fieldLink RX9 9 "ScissorsTable$Tape" "bytes" "[B") (by decide +kernel)) (fun _ h9 => h9) rfl dX9_take_30 ?_
          refine lv_aload_n hx hb dX9_take_33 rfl (lv_at hl 2 rfl) ?_
          refine va_get (D := (dC, dI)) (ci := 9) (v := .int (nI (n + 1))) (C := RX9) (T := TX9) (N := 2) hx hb hts hiX9 hown hK hP 0 rfl rfl 1 (by decide) (hts (.fieldLink RX9 13 "ScissorsTable$Tape" "length" "I") (by decide +kernel)) (fun _ h9 => h9) rfl dX9_take_34 ?_
          refine lv_iload_n hx hb dX9_take_37 rfl (lv_at hl 0 rfl) ?_
          refine lv_i2b hx hb dX9_take_38 rfl ?_
          refine lv_topi (fun x_22 ex_22 => ?_)
          refine va_bast hx hb hK hP hD hS 1 0 rfl rfl (vp_in_nI (by omega) (by decide)) dX9_take_39 (fun H locs hP hD hS => ?_)
          generalize upd fb_17 (nI (n + 1)).toNatClampNeg (vp_nar .byte x_22) = fb_23 at hP hD
          have hP : va_P (dC, dI) vwCl [(xTape, .inr (9, [.ref tB, .int (nI (n + 1))])), (tB, .inl (cB, 600, (.inl fb_23)))] H := hP
          have hD : va_D A [(xTape, .inr (9, [.ref tB, .int (nI (n + 1))])), (tB, .inl (cB, 600, (.inl fb_23)))] := hD
          refine lv_aload_n hx hb dX9_take_40 rfl (lv_at hl 2 rfl) ?_
          refine lv_dup hx hb dX9_take_41 rfl ?_
          refine va_get (D := (dC, dI)) (ci := 9) (v := .int (nI (n + 1))) (C := RX9) (T := TX9) (N := 2) hx hb hts hiX9 hown hK hP 0 rfl rfl 1 (by decide) (hts (.fieldLink RX9 13 "ScissorsTable$Tape" "length" "I") (by decide +kernel)) (fun _ h9 => h9) rfl dX9_take_42 ?_
          refine lv_iconst (v := 1) hx hb dX9_take_45 (by decide) ?_
          refine lv_iadd hx hb dX9_take_46 ?_
          refine lv_topi (fun x_24 ex_24 => ?_)
          obtain rfl : x_24 = nI ((n + 1) + 1) := ex_24.trans (nI_add ((n + 1)) 1)
          refine va_put (D := (dC, dI)) (ci := 9) (v := .int (nI ((n + 1) + 1))) (ty := .int) (C := RX9) (T := TX9) (N := 2) hx hb hts hiX9 tyX9 tyX9_ok nmX9 hown hK hP hD hS 0 rfl rfl 1 (by decide) (hts (.fieldLink RX9 13 "ScissorsTable$Tape" "length" "I") (by decide +kernel)) (fun _ h9 => h9) rfl (by decide +kernel) rfl rfl (Nat.le_of_ble_eq_true rfl) dX9_take_47 (fun H locs hP hD hS => ?_)
          have hP : va_P (dC, dI) vwCl [(xTape, .inr (9, [.ref tB, .int (nI ((n + 1) + 1))])), (tB, .inl (cB, 600, (.inl fb_23)))] H := hP
          have hD : va_D A [(xTape, .inr (9, [.ref tB, .int (nI ((n + 1) + 1))])), (tB, .inl (cB, 600, (.inl fb_23)))] := hD
          refine lv_iinc (v := (-8)) (lv' := [(2, .int (-8)), (3, .int x_20), (0, .ref xTape), (1, .int p0)]) hx hb dX9_take_50 hl (k := 1) rfl (by decide) (by decide) rfl (fun ls hl => ?_)
          refine lv_goto (tgt := 3) hx hb dX9_take_53 (by decide) ?_
          refine lv_iload_n hx hb dX9_take_3 rfl (lv_at hl 0 rfl) ?_
          refine lv_if_lt (tgt := 56) hx hb dX9_take_4 (by decide) (fun _ => ?_) (fun c => absurd (by decide) c)
          have h24 : sp_by p0 24 = 0 := if_pos (by rw [← ex_1, ← ex_2]; exact c_3)
          have h16 : sp_by p0 16 = 0 := if_pos (by rw [← ex_4, ← ex_5]; exact c_6)
          have h8 : sp_by p0 8 = 1 := if_neg (by rw [← ex_7, ← ex_8]; exact c_9)
          have h0 : sp_by p0 0 = 1 := if_neg (by rw [← ex_19, ← ex_20]; exact c_21)
          have hc : sp_cnt p0 = 2 := by unfold sp_cnt; rw [h24, h16, h8, h0]
          have hP9 := hP.sub (ws' := [(xTape, .inr (9, [.ref tB, .int (nI (n + 2))])), (tB, .inl (cB, 600, (.inl fb_23)))]) [0, 1] rfl
          have hD9 := hD.sub (ws' := [(xTape, .inr (9, [.ref tB, .int (nI (n + 2))])), (tB, .inl (cB, 600, (.inl fb_23)))]) [0, 1] (by decide) rfl
          exact W.vret hx hb hr (fun t ht hW => ⟨⟨(), rfl, trivial, fb_23, by rw [ht, hc]; exact hP9, va_K.moved hW.alike hK, by rw [hc]; exact hD9⟩, hS.F ht⟩) hS.2.2 dX9_take_56
    · refine lv_aload_n hx hb dX9_take_19 rfl (lv_at hl 2 rfl) ?_
      refine va_get (D := (dC, dI)) (ci := 9) (v := .int (nI n)) (C := RX9) (T := TX9) (N := 2) hx hb hts hiX9 hown hK hP 0 rfl rfl 1 (by decide) (hts (.fieldLink RX9 13 "ScissorsTable$Tape" "length" "I") (by decide +kernel)) (fun _ h9 => h9) rfl dX9_take_20 ?_
      refine lv_sipush (v := 600) hx hb dX9_take_23 (by decide) ?_
      refine lv_icmp_ge (tgt := 50) hx hb dX9_take_26 (by decide) (fun c => absurd c (nI_ge (a := n) (b := 600) (by omega) (by decide))) (fun _ => ?_)
      refine lv_aload_n hx hb dX9_take_29 rfl (lv_at hl 2 rfl) ?_
      refine va_get (D := (dC, dI)) (ci := 9) (v := .ref tB) (C := RX9) (T := TX9) (N := 2) hx hb hts hiX9 hown hK hP 0 rfl rfl 0 (by decide) (hts (.fieldLink RX9 9 "ScissorsTable$Tape" "bytes" "[B") (by decide +kernel)) (fun _ h9 => h9) rfl dX9_take_30 ?_
      refine lv_aload_n hx hb dX9_take_33 rfl (lv_at hl 2 rfl) ?_
      refine va_get (D := (dC, dI)) (ci := 9) (v := .int (nI n)) (C := RX9) (T := TX9) (N := 2) hx hb hts hiX9 hown hK hP 0 rfl rfl 1 (by decide) (hts (.fieldLink RX9 13 "ScissorsTable$Tape" "length" "I") (by decide +kernel)) (fun _ h9 => h9) rfl dX9_take_34 ?_
      refine lv_iload_n hx hb dX9_take_37 rfl (lv_at hl 0 rfl) ?_
      refine lv_i2b hx hb dX9_take_38 rfl ?_
      refine lv_topi (fun x_25 ex_25 => ?_)
      refine va_bast hx hb hK hP hD hS 1 0 rfl rfl (vp_in_nI (by omega) (by decide)) dX9_take_39 (fun H locs hP hD hS => ?_)
      generalize upd fb (nI n).toNatClampNeg (vp_nar .byte x_25) = fb_26 at hP hD
      have hP : va_P (dC, dI) vwCl [(xTape, .inr (9, [.ref tB, .int (nI n)])), (tB, .inl (cB, 600, (.inl fb_26)))] H := hP
      have hD : va_D A [(xTape, .inr (9, [.ref tB, .int (nI n)])), (tB, .inl (cB, 600, (.inl fb_26)))] := hD
      refine lv_aload_n hx hb dX9_take_40 rfl (lv_at hl 2 rfl) ?_
      refine lv_dup hx hb dX9_take_41 rfl ?_
      refine va_get (D := (dC, dI)) (ci := 9) (v := .int (nI n)) (C := RX9) (T := TX9) (N := 2) hx hb hts hiX9 hown hK hP 0 rfl rfl 1 (by decide) (hts (.fieldLink RX9 13 "ScissorsTable$Tape" "length" "I") (by decide +kernel)) (fun _ h9 => h9) rfl dX9_take_42 ?_
      refine lv_iconst (v := 1) hx hb dX9_take_45 (by decide) ?_
      refine lv_iadd hx hb dX9_take_46 ?_
      refine lv_topi (fun x_27 ex_27 => ?_)
      obtain rfl : x_27 = nI (n + 1) := ex_27.trans (nI_add n 1)
      refine va_put (D := (dC, dI)) (ci := 9) (v := .int (nI (n + 1))) (ty := .int) (C := RX9) (T := TX9) (N := 2) hx hb hts hiX9 tyX9 tyX9_ok nmX9 hown hK hP hD hS 0 rfl rfl 1 (by decide) (hts (.fieldLink RX9 13 "ScissorsTable$Tape" "length" "I") (by decide +kernel)) (fun _ h9 => h9) rfl (by decide +kernel) rfl rfl (Nat.le_of_ble_eq_true rfl) dX9_take_47 (fun H locs hP hD hS => ?_)
      have hP : va_P (dC, dI) vwCl [(xTape, .inr (9, [.ref tB, .int (nI (n + 1))])), (tB, .inl (cB, 600, (.inl fb_26)))] H := hP
      have hD : va_D A [(xTape, .inr (9, [.ref tB, .int (nI (n + 1))])), (tB, .inl (cB, 600, (.inl fb_26)))] := hD
      refine lv_iinc (v := 8) (lv' := [(2, .int 8), (3, .int x_5), (0, .ref xTape), (1, .int p0)]) hx hb dX9_take_50 hl (k := 1) rfl (by decide) (by decide) rfl (fun ls hl => ?_)
      refine lv_goto (tgt := 3) hx hb dX9_take_53 (by decide) ?_
      refine lv_iload_n hx hb dX9_take_3 rfl (lv_at hl 0 rfl) ?_
      refine lv_if_lt (tgt := 56) hx hb dX9_take_4 (by decide) (fun c => absurd c (by decide)) (fun _ => ?_)
      refine lv_iload_n hx hb dX9_take_7 rfl (lv_at hl 3 rfl) ?_
      refine lv_iload_n hx hb dX9_take_8 rfl (lv_at hl 0 rfl) ?_
      refine lv_ishr hx hb dX9_take_9 ?_
      refine lv_topi (fun x_28 ex_28 => ?_)
      refine lv_sipush (v := 255) hx hb dX9_take_10 (by decide) ?_
      refine lv_iand hx hb dX9_take_13 ?_
      refine lv_topi (fun x_29 ex_29 => ?_)
      refine lv_istore_n (lv' := [(3, .int x_29), (2, .int 8), (0, .ref xTape), (1, .int p0)]) hx hb dX9_take_14 rfl hl (by decide) rfl (fun ls hl => ?_)
      refine lv_iload_n hx hb dX9_take_15 rfl (lv_at hl 0 rfl) ?_
      refine lv_if_eq (tgt := 50) hx hb dX9_take_16 (by decide) (fun c_30 => ?_) (fun c_30 => ?_)
      · refine lv_iinc (v := 0) (lv' := [(2, .int 0), (3, .int x_29), (0, .ref xTape), (1, .int p0)]) hx hb dX9_take_50 hl (k := 1) rfl (by decide) (by decide) rfl (fun ls hl => ?_)
        refine lv_goto (tgt := 3) hx hb dX9_take_53 (by decide) ?_
        refine lv_iload_n hx hb dX9_take_3 rfl (lv_at hl 0 rfl) ?_
        refine lv_if_lt (tgt := 56) hx hb dX9_take_4 (by decide) (fun c => absurd c (by decide)) (fun _ => ?_)
        refine lv_iload_n hx hb dX9_take_7 rfl (lv_at hl 3 rfl) ?_
        refine lv_iload_n hx hb dX9_take_8 rfl (lv_at hl 0 rfl) ?_
        refine lv_ishr hx hb dX9_take_9 ?_
        refine lv_topi (fun x_31 ex_31 => ?_)
        refine lv_sipush (v := 255) hx hb dX9_take_10 (by decide) ?_
        refine lv_iand hx hb dX9_take_13 ?_
        refine lv_topi (fun x_32 ex_32 => ?_)
        refine lv_istore_n (lv' := [(3, .int x_32), (2, .int 0), (0, .ref xTape), (1, .int p0)]) hx hb dX9_take_14 rfl hl (by decide) rfl (fun ls hl => ?_)
        refine lv_iload_n hx hb dX9_take_15 rfl (lv_at hl 0 rfl) ?_
        refine lv_if_eq (tgt := 50) hx hb dX9_take_16 (by decide) (fun c_33 => ?_) (fun c_33 => ?_)
        · refine lv_iinc (v := (-8)) (lv' := [(2, .int (-8)), (3, .int x_32), (0, .ref xTape), (1, .int p0)]) hx hb dX9_take_50 hl (k := 1) rfl (by decide) (by decide) rfl (fun ls hl => ?_)
          refine lv_goto (tgt := 3) hx hb dX9_take_53 (by decide) ?_
          refine lv_iload_n hx hb dX9_take_3 rfl (lv_at hl 0 rfl) ?_
          refine lv_if_lt (tgt := 56) hx hb dX9_take_4 (by decide) (fun _ => ?_) (fun c => absurd (by decide) c)
          have h24 : sp_by p0 24 = 0 := if_pos (by rw [← ex_1, ← ex_2]; exact c_3)
          have h16 : sp_by p0 16 = 1 := if_neg (by rw [← ex_4, ← ex_5]; exact c_6)
          have h8 : sp_by p0 8 = 0 := if_pos (by rw [← ex_28, ← ex_29]; exact c_30)
          have h0 : sp_by p0 0 = 0 := if_pos (by rw [← ex_31, ← ex_32]; exact c_33)
          have hc : sp_cnt p0 = 1 := by unfold sp_cnt; rw [h24, h16, h8, h0]
          have hP9 := hP.sub (ws' := [(xTape, .inr (9, [.ref tB, .int (nI (n + 1))])), (tB, .inl (cB, 600, (.inl fb_26)))]) [0, 1] rfl
          have hD9 := hD.sub (ws' := [(xTape, .inr (9, [.ref tB, .int (nI (n + 1))])), (tB, .inl (cB, 600, (.inl fb_26)))]) [0, 1] (by decide) rfl
          exact W.vret hx hb hr (fun t ht hW => ⟨⟨(), rfl, trivial, fb_26, by rw [ht, hc]; exact hP9, va_K.moved hW.alike hK, by rw [hc]; exact hD9⟩, hS.F ht⟩) hS.2.2 dX9_take_56
        · refine lv_aload_n hx hb dX9_take_19 rfl (lv_at hl 2 rfl) ?_
          refine va_get (D := (dC, dI)) (ci := 9) (v := .int (nI (n + 1))) (C := RX9) (T := TX9) (N := 2) hx hb hts hiX9 hown hK hP 0 rfl rfl 1 (by decide) (hts (.fieldLink RX9 13 "ScissorsTable$Tape" "length" "I") (by decide +kernel)) (fun _ h9 => h9) rfl dX9_take_20 ?_
          refine lv_sipush (v := 600) hx hb dX9_take_23 (by decide) ?_
          refine lv_icmp_ge (tgt := 50) hx hb dX9_take_26 (by decide) (fun c => absurd c (nI_ge (a := (n + 1)) (b := 600) (by omega) (by decide))) (fun _ => ?_)
          refine lv_aload_n hx hb dX9_take_29 rfl (lv_at hl 2 rfl) ?_
          refine va_get (D := (dC, dI)) (ci := 9) (v := .ref tB) (C := RX9) (T := TX9) (N := 2) hx hb hts hiX9 hown hK hP 0 rfl rfl 0 (by decide) (hts (.fieldLink RX9 9 "ScissorsTable$Tape" "bytes" "[B") (by decide +kernel)) (fun _ h9 => h9) rfl dX9_take_30 ?_
          refine lv_aload_n hx hb dX9_take_33 rfl (lv_at hl 2 rfl) ?_
          refine va_get (D := (dC, dI)) (ci := 9) (v := .int (nI (n + 1))) (C := RX9) (T := TX9) (N := 2) hx hb hts hiX9 hown hK hP 0 rfl rfl 1 (by decide) (hts (.fieldLink RX9 13 "ScissorsTable$Tape" "length" "I") (by decide +kernel)) (fun _ h9 => h9) rfl dX9_take_34 ?_
          refine lv_iload_n hx hb dX9_take_37 rfl (lv_at hl 0 rfl) ?_
          refine lv_i2b hx hb dX9_take_38 rfl ?_
          refine lv_topi (fun x_34 ex_34 => ?_)
          refine va_bast hx hb hK hP hD hS 1 0 rfl rfl (vp_in_nI (by omega) (by decide)) dX9_take_39 (fun H locs hP hD hS => ?_)
          generalize upd fb_26 (nI (n + 1)).toNatClampNeg (vp_nar .byte x_34) = fb_35 at hP hD
          have hP : va_P (dC, dI) vwCl [(xTape, .inr (9, [.ref tB, .int (nI (n + 1))])), (tB, .inl (cB, 600, (.inl fb_35)))] H := hP
          have hD : va_D A [(xTape, .inr (9, [.ref tB, .int (nI (n + 1))])), (tB, .inl (cB, 600, (.inl fb_35)))] := hD
          refine lv_aload_n hx hb dX9_take_40 rfl (lv_at hl 2 rfl) ?_
          refine lv_dup hx hb dX9_take_41 rfl ?_
          refine va_get (D := (dC, dI)) (ci := 9) (v := .int (nI (n + 1))) (C := RX9) (T := TX9) (N := 2) hx hb hts hiX9 hown hK hP 0 rfl rfl 1 (by decide) (hts (.fieldLink RX9 13 "ScissorsTable$Tape" "length" "I") (by decide +kernel)) (fun _ h9 => h9) rfl dX9_take_42 ?_
          refine lv_iconst (v := 1) hx hb dX9_take_45 (by decide) ?_
          refine lv_iadd hx hb dX9_take_46 ?_
          refine lv_topi (fun x_36 ex_36 => ?_)
          obtain rfl : x_36 = nI ((n + 1) + 1) := ex_36.trans (nI_add ((n + 1)) 1)
          refine va_put (D := (dC, dI)) (ci := 9) (v := .int (nI ((n + 1) + 1))) (ty := .int) (C := RX9) (T := TX9) (N := 2) hx hb hts hiX9 tyX9 tyX9_ok nmX9 hown hK hP hD hS 0 rfl rfl 1 (by decide) (hts (.fieldLink RX9 13 "ScissorsTable$Tape" "length" "I") (by decide +kernel)) (fun _ h9 => h9) rfl (by decide +kernel) rfl rfl (Nat.le_of_ble_eq_true rfl) dX9_take_47 (fun H locs hP hD hS => ?_)
          have hP : va_P (dC, dI) vwCl [(xTape, .inr (9, [.ref tB, .int (nI ((n + 1) + 1))])), (tB, .inl (cB, 600, (.inl fb_35)))] H := hP
          have hD : va_D A [(xTape, .inr (9, [.ref tB, .int (nI ((n + 1) + 1))])), (tB, .inl (cB, 600, (.inl fb_35)))] := hD
          refine lv_iinc (v := (-8)) (lv' := [(2, .int (-8)), (3, .int x_32), (0, .ref xTape), (1, .int p0)]) hx hb dX9_take_50 hl (k := 1) rfl (by decide) (by decide) rfl (fun ls hl => ?_)
          refine lv_goto (tgt := 3) hx hb dX9_take_53 (by decide) ?_
          refine lv_iload_n hx hb dX9_take_3 rfl (lv_at hl 0 rfl) ?_
          refine lv_if_lt (tgt := 56) hx hb dX9_take_4 (by decide) (fun _ => ?_) (fun c => absurd (by decide) c)
          have h24 : sp_by p0 24 = 0 := if_pos (by rw [← ex_1, ← ex_2]; exact c_3)
          have h16 : sp_by p0 16 = 1 := if_neg (by rw [← ex_4, ← ex_5]; exact c_6)
          have h8 : sp_by p0 8 = 0 := if_pos (by rw [← ex_28, ← ex_29]; exact c_30)
          have h0 : sp_by p0 0 = 1 := if_neg (by rw [← ex_31, ← ex_32]; exact c_33)
          have hc : sp_cnt p0 = 2 := by unfold sp_cnt; rw [h24, h16, h8, h0]
          have hP9 := hP.sub (ws' := [(xTape, .inr (9, [.ref tB, .int (nI (n + 2))])), (tB, .inl (cB, 600, (.inl fb_35)))]) [0, 1] rfl
          have hD9 := hD.sub (ws' := [(xTape, .inr (9, [.ref tB, .int (nI (n + 2))])), (tB, .inl (cB, 600, (.inl fb_35)))]) [0, 1] (by decide) rfl
          exact W.vret hx hb hr (fun t ht hW => ⟨⟨(), rfl, trivial, fb_35, by rw [ht, hc]; exact hP9, va_K.moved hW.alike hK, by rw [hc]; exact hD9⟩, hS.F ht⟩) hS.2.2 dX9_take_56
      · refine lv_aload_n hx hb dX9_take_19 rfl (lv_at hl 2 rfl) ?_
        refine va_get (D := (dC, dI)) (ci := 9) (v := .int (nI (n + 1))) (C := RX9) (T := TX9) (N := 2) hx hb hts hiX9 hown hK hP 0 rfl rfl 1 (by decide) (hts (.fieldLink RX9 13 "ScissorsTable$Tape" "length" "I") (by decide +kernel)) (fun _ h9 => h9) rfl dX9_take_20 ?_
        refine lv_sipush (v := 600) hx hb dX9_take_23 (by decide) ?_
        refine lv_icmp_ge (tgt := 50) hx hb dX9_take_26 (by decide) (fun c => absurd c (nI_ge (a := (n + 1)) (b := 600) (by omega) (by decide))) (fun _ => ?_)
        refine lv_aload_n hx hb dX9_take_29 rfl (lv_at hl 2 rfl) ?_
        refine va_get (D := (dC, dI)) (ci := 9) (v := .ref tB) (C := RX9) (T := TX9) (N := 2) hx hb hts hiX9 hown hK hP 0 rfl rfl 0 (by decide) (hts (.fieldLink RX9 9 "ScissorsTable$Tape" "bytes" "[B") (by decide +kernel)) (fun _ h9 => h9) rfl dX9_take_30 ?_
        refine lv_aload_n hx hb dX9_take_33 rfl (lv_at hl 2 rfl) ?_
        refine va_get (D := (dC, dI)) (ci := 9) (v := .int (nI (n + 1))) (C := RX9) (T := TX9) (N := 2) hx hb hts hiX9 hown hK hP 0 rfl rfl 1 (by decide) (hts (.fieldLink RX9 13 "ScissorsTable$Tape" "length" "I") (by decide +kernel)) (fun _ h9 => h9) rfl dX9_take_34 ?_
        refine lv_iload_n hx hb dX9_take_37 rfl (lv_at hl 0 rfl) ?_
        refine lv_i2b hx hb dX9_take_38 rfl ?_
        refine lv_topi (fun x_37 ex_37 => ?_)
        refine va_bast hx hb hK hP hD hS 1 0 rfl rfl (vp_in_nI (by omega) (by decide)) dX9_take_39 (fun H locs hP hD hS => ?_)
        generalize upd fb_26 (nI (n + 1)).toNatClampNeg (vp_nar .byte x_37) = fb_38 at hP hD
        have hP : va_P (dC, dI) vwCl [(xTape, .inr (9, [.ref tB, .int (nI (n + 1))])), (tB, .inl (cB, 600, (.inl fb_38)))] H := hP
        have hD : va_D A [(xTape, .inr (9, [.ref tB, .int (nI (n + 1))])), (tB, .inl (cB, 600, (.inl fb_38)))] := hD
        refine lv_aload_n hx hb dX9_take_40 rfl (lv_at hl 2 rfl) ?_
        refine lv_dup hx hb dX9_take_41 rfl ?_
        refine va_get (D := (dC, dI)) (ci := 9) (v := .int (nI (n + 1))) (C := RX9) (T := TX9) (N := 2) hx hb hts hiX9 hown hK hP 0 rfl rfl 1 (by decide) (hts (.fieldLink RX9 13 "ScissorsTable$Tape" "length" "I") (by decide +kernel)) (fun _ h9 => h9) rfl dX9_take_42 ?_
        refine lv_iconst (v := 1) hx hb dX9_take_45 (by decide) ?_
        refine lv_iadd hx hb dX9_take_46 ?_
        refine lv_topi (fun x_39 ex_39 => ?_)
        obtain rfl : x_39 = nI ((n + 1) + 1) := ex_39.trans (nI_add ((n + 1)) 1)
        refine va_put (D := (dC, dI)) (ci := 9) (v := .int (nI ((n + 1) + 1))) (ty := .int) (C := RX9) (T := TX9) (N := 2) hx hb hts hiX9 tyX9 tyX9_ok nmX9 hown hK hP hD hS 0 rfl rfl 1 (by decide) (hts (.fieldLink RX9 13 "ScissorsTable$Tape" "length" "I") (by decide +kernel)) (fun _ h9 => h9) rfl (by decide +kernel) rfl rfl (Nat.le_of_ble_eq_true rfl) dX9_take_47 (fun H locs hP hD hS => ?_)
        have hP : va_P (dC, dI) vwCl [(xTape, .inr (9, [.ref tB, .int (nI ((n + 1) + 1))])), (tB, .inl (cB, 600, (.inl fb_38)))] H := hP
        have hD : va_D A [(xTape, .inr (9, [.ref tB, .int (nI ((n + 1) + 1))])), (tB, .inl (cB, 600, (.inl fb_38)))] := hD
        refine lv_iinc (v := 0) (lv' := [(2, .int 0), (3, .int x_29), (0, .ref xTape), (1, .int p0)]) hx hb dX9_take_50 hl (k := 1) rfl (by decide) (by decide) rfl (fun ls hl => ?_)
        refine lv_goto (tgt := 3) hx hb dX9_take_53 (by decide) ?_
        refine lv_iload_n hx hb dX9_take_3 rfl (lv_at hl 0 rfl) ?_
        refine lv_if_lt (tgt := 56) hx hb dX9_take_4 (by decide) (fun c => absurd c (by decide)) (fun _ => ?_)
        refine lv_iload_n hx hb dX9_take_7 rfl (lv_at hl 3 rfl) ?_
        refine lv_iload_n hx hb dX9_take_8 rfl (lv_at hl 0 rfl) ?_
        refine lv_ishr hx hb dX9_take_9 ?_
        refine lv_topi (fun x_40 ex_40 => ?_)
        refine lv_sipush (v := 255) hx hb dX9_take_10 (by decide) ?_
        refine lv_iand hx hb dX9_take_13 ?_
        refine lv_topi (fun x_41 ex_41 => ?_)
        refine lv_istore_n (lv' := [(3, .int x_41), (2, .int 0), (0, .ref xTape), (1, .int p0)]) hx hb dX9_take_14 rfl hl (by decide) rfl (fun ls hl => ?_)
        refine lv_iload_n hx hb dX9_take_15 rfl (lv_at hl 0 rfl) ?_
        refine lv_if_eq (tgt := 50) hx hb dX9_take_16 (by decide) (fun c_42 => ?_) (fun c_42 => ?_)
        · refine lv_iinc (v := (-8)) (lv' := [(2, .int (-8)), (3, .int x_41), (0, .ref xTape), (1, .int p0)]) hx hb dX9_take_50 hl (k := 1) rfl (by decide) (by decide) rfl (fun ls hl => ?_)
          refine lv_goto (tgt := 3) hx hb dX9_take_53 (by decide) ?_
          refine lv_iload_n hx hb dX9_take_3 rfl (lv_at hl 0 rfl) ?_
          refine lv_if_lt (tgt := 56) hx hb dX9_take_4 (by decide) (fun _ => ?_) (fun c => absurd (by decide) c)
          have h24 : sp_by p0 24 = 0 := if_pos (by rw [← ex_1, ← ex_2]; exact c_3)
          have h16 : sp_by p0 16 = 1 := if_neg (by rw [← ex_4, ← ex_5]; exact c_6)
          have h8 : sp_by p0 8 = 1 := if_neg (by rw [← ex_28, ← ex_29]; exact c_30)
          have h0 : sp_by p0 0 = 0 := if_pos (by rw [← ex_40, ← ex_41]; exact c_42)
          have hc : sp_cnt p0 = 2 := by unfold sp_cnt; rw [h24, h16, h8, h0]
          have hP9 := hP.sub (ws' := [(xTape, .inr (9, [.ref tB, .int (nI (n + 2))])), (tB, .inl (cB, 600, (.inl fb_38)))]) [0, 1] rfl
          have hD9 := hD.sub (ws' := [(xTape, .inr (9, [.ref tB, .int (nI (n + 2))])), (tB, .inl (cB, 600, (.inl fb_38)))]) [0, 1] (by decide) rfl
          exact W.vret hx hb hr (fun t ht hW => ⟨⟨(), rfl, trivial, fb_38, by rw [ht, hc]; exact hP9, va_K.moved hW.alike hK, by rw [hc]; exact hD9⟩, hS.F ht⟩) hS.2.2 dX9_take_56
        · refine lv_aload_n hx hb dX9_take_19 rfl (lv_at hl 2 rfl) ?_
          refine va_get (D := (dC, dI)) (ci := 9) (v := .int (nI ((n + 1) + 1))) (C := RX9) (T := TX9) (N := 2) hx hb hts hiX9 hown hK hP 0 rfl rfl 1 (by decide) (hts (.fieldLink RX9 13 "ScissorsTable$Tape" "length" "I") (by decide +kernel)) (fun _ h9 => h9) rfl dX9_take_20 ?_
          refine lv_sipush (v := 600) hx hb dX9_take_23 (by decide) ?_
          refine lv_icmp_ge (tgt := 50) hx hb dX9_take_26 (by decide) (fun c => absurd c (nI_ge (a := ((n + 1) + 1)) (b := 600) (by omega) (by decide))) (fun _ => ?_)
          refine lv_aload_n hx hb dX9_take_29 rfl (lv_at hl 2 rfl) ?_
          refine va_get (D := (dC, dI)) (ci := 9) (v := .ref tB) (C := RX9) (T := TX9) (N := 2) hx hb hts hiX9 hown hK hP 0 rfl rfl 0 (by decide) (hts (.fieldLink RX9 9 "ScissorsTable$Tape" "bytes" "[B") (by decide +kernel)) (fun _ h9 => h9) rfl dX9_take_30 ?_
          refine lv_aload_n hx hb dX9_take_33 rfl (lv_at hl 2 rfl) ?_
          refine va_get (D := (dC, dI)) (ci := 9) (v := .int (nI ((n + 1) + 1))) (C := RX9) (T := TX9) (N := 2) hx hb hts hiX9 hown hK hP 0 rfl rfl 1 (by decide) (hts (.fieldLink RX9 13 "ScissorsTable$Tape" "length" "I") (by decide +kernel)) (fun _ h9 => h9) rfl dX9_take_34 ?_
          refine lv_iload_n hx hb dX9_take_37 rfl (lv_at hl 0 rfl) ?_
          refine lv_i2b hx hb dX9_take_38 rfl ?_
          refine lv_topi (fun x_43 ex_43 => ?_)
          refine va_bast hx hb hK hP hD hS 1 0 rfl rfl (vp_in_nI (by omega) (by decide)) dX9_take_39 (fun H locs hP hD hS => ?_)
          generalize upd fb_38 (nI ((n + 1) + 1)).toNatClampNeg (vp_nar .byte x_43) = fb_44 at hP hD
          have hP : va_P (dC, dI) vwCl [(xTape, .inr (9, [.ref tB, .int (nI ((n + 1) + 1))])), (tB, .inl (cB, 600, (.inl fb_44)))] H := hP
          have hD : va_D A [(xTape, .inr (9, [.ref tB, .int (nI ((n + 1) + 1))])), (tB, .inl (cB, 600, (.inl fb_44)))] := hD
          refine lv_aload_n hx hb dX9_take_40 rfl (lv_at hl 2 rfl) ?_
          refine lv_dup hx hb dX9_take_41 rfl ?_
          refine va_get (D := (dC, dI)) (ci := 9) (v := .int (nI ((n + 1) + 1))) (C := RX9) (T := TX9) (N := 2) hx hb hts hiX9 hown hK hP 0 rfl rfl 1 (by decide) (hts (.fieldLink RX9 13 "ScissorsTable$Tape" "length" "I") (by decide +kernel)) (fun _ h9 => h9) rfl dX9_take_42 ?_
          refine lv_iconst (v := 1) hx hb dX9_take_45 (by decide) ?_
          refine lv_iadd hx hb dX9_take_46 ?_
          refine lv_topi (fun x_45 ex_45 => ?_)
          obtain rfl : x_45 = nI (((n + 1) + 1) + 1) := ex_45.trans (nI_add (((n + 1) + 1)) 1)
          refine va_put (D := (dC, dI)) (ci := 9) (v := .int (nI (((n + 1) + 1) + 1))) (ty := .int) (C := RX9) (T := TX9) (N := 2) hx hb hts hiX9 tyX9 tyX9_ok nmX9 hown hK hP hD hS 0 rfl rfl 1 (by decide) (hts (.fieldLink RX9 13 "ScissorsTable$Tape" "length" "I") (by decide +kernel)) (fun _ h9 => h9) rfl (by decide +kernel) rfl rfl (Nat.le_of_ble_eq_true rfl) dX9_take_47 (fun H locs hP hD hS => ?_)
          have hP : va_P (dC, dI) vwCl [(xTape, .inr (9, [.ref tB, .int (nI (((n + 1) + 1) + 1))])), (tB, .inl (cB, 600, (.inl fb_44)))] H := hP
          have hD : va_D A [(xTape, .inr (9, [.ref tB, .int (nI (((n + 1) + 1) + 1))])), (tB, .inl (cB, 600, (.inl fb_44)))] := hD
          refine lv_iinc (v := (-8)) (lv' := [(2, .int (-8)), (3, .int x_41), (0, .ref xTape), (1, .int p0)]) hx hb dX9_take_50 hl (k := 1) rfl (by decide) (by decide) rfl (fun ls hl => ?_)
          refine lv_goto (tgt := 3) hx hb dX9_take_53 (by decide) ?_
          refine lv_iload_n hx hb dX9_take_3 rfl (lv_at hl 0 rfl) ?_
          refine lv_if_lt (tgt := 56) hx hb dX9_take_4 (by decide) (fun _ => ?_) (fun c => absurd (by decide) c)
          have h24 : sp_by p0 24 = 0 := if_pos (by rw [← ex_1, ← ex_2]; exact c_3)
          have h16 : sp_by p0 16 = 1 := if_neg (by rw [← ex_4, ← ex_5]; exact c_6)
          have h8 : sp_by p0 8 = 1 := if_neg (by rw [← ex_28, ← ex_29]; exact c_30)
          have h0 : sp_by p0 0 = 1 := if_neg (by rw [← ex_40, ← ex_41]; exact c_42)
          have hc : sp_cnt p0 = 3 := by unfold sp_cnt; rw [h24, h16, h8, h0]
          have hP9 := hP.sub (ws' := [(xTape, .inr (9, [.ref tB, .int (nI (n + 3))])), (tB, .inl (cB, 600, (.inl fb_44)))]) [0, 1] rfl
          have hD9 := hD.sub (ws' := [(xTape, .inr (9, [.ref tB, .int (nI (n + 3))])), (tB, .inl (cB, 600, (.inl fb_44)))]) [0, 1] (by decide) rfl
          exact W.vret hx hb hr (fun t ht hW => ⟨⟨(), rfl, trivial, fb_44, by rw [ht, hc]; exact hP9, va_K.moved hW.alike hK, by rw [hc]; exact hD9⟩, hS.F ht⟩) hS.2.2 dX9_take_56
  · refine lv_aload_n hx hb dX9_take_19 rfl (lv_at hl 2 rfl) ?_
    refine va_get (D := (dC, dI)) (ci := 9) (v := .int (nI n)) (C := RX9) (T := TX9) (N := 2) hx hb hts hiX9 hown hK hP 0 rfl rfl 1 (by decide) (hts (.fieldLink RX9 13 "ScissorsTable$Tape" "length" "I") (by decide +kernel)) (fun _ h9 => h9) rfl dX9_take_20 ?_
    refine lv_sipush (v := 600) hx hb dX9_take_23 (by decide) ?_
    refine lv_icmp_ge (tgt := 50) hx hb dX9_take_26 (by decide) (fun c => absurd c (nI_ge (a := n) (b := 600) (by omega) (by decide))) (fun _ => ?_)
    refine lv_aload_n hx hb dX9_take_29 rfl (lv_at hl 2 rfl) ?_
    refine va_get (D := (dC, dI)) (ci := 9) (v := .ref tB) (C := RX9) (T := TX9) (N := 2) hx hb hts hiX9 hown hK hP 0 rfl rfl 0 (by decide) (hts (.fieldLink RX9 9 "ScissorsTable$Tape" "bytes" "[B") (by decide +kernel)) (fun _ h9 => h9) rfl dX9_take_30 ?_
    refine lv_aload_n hx hb dX9_take_33 rfl (lv_at hl 2 rfl) ?_
    refine va_get (D := (dC, dI)) (ci := 9) (v := .int (nI n)) (C := RX9) (T := TX9) (N := 2) hx hb hts hiX9 hown hK hP 0 rfl rfl 1 (by decide) (hts (.fieldLink RX9 13 "ScissorsTable$Tape" "length" "I") (by decide +kernel)) (fun _ h9 => h9) rfl dX9_take_34 ?_
    refine lv_iload_n hx hb dX9_take_37 rfl (lv_at hl 0 rfl) ?_
    refine lv_i2b hx hb dX9_take_38 rfl ?_
    refine lv_topi (fun x_46 ex_46 => ?_)
    refine va_bast hx hb hK hP hD hS 1 0 rfl rfl (vp_in_nI (by omega) (by decide)) dX9_take_39 (fun H locs hP hD hS => ?_)
    generalize upd fb (nI n).toNatClampNeg (vp_nar .byte x_46) = fb_47 at hP hD
    have hP : va_P (dC, dI) vwCl [(xTape, .inr (9, [.ref tB, .int (nI n)])), (tB, .inl (cB, 600, (.inl fb_47)))] H := hP
    have hD : va_D A [(xTape, .inr (9, [.ref tB, .int (nI n)])), (tB, .inl (cB, 600, (.inl fb_47)))] := hD
    refine lv_aload_n hx hb dX9_take_40 rfl (lv_at hl 2 rfl) ?_
    refine lv_dup hx hb dX9_take_41 rfl ?_
    refine va_get (D := (dC, dI)) (ci := 9) (v := .int (nI n)) (C := RX9) (T := TX9) (N := 2) hx hb hts hiX9 hown hK hP 0 rfl rfl 1 (by decide) (hts (.fieldLink RX9 13 "ScissorsTable$Tape" "length" "I") (by decide +kernel)) (fun _ h9 => h9) rfl dX9_take_42 ?_
    refine lv_iconst (v := 1) hx hb dX9_take_45 (by decide) ?_
    refine lv_iadd hx hb dX9_take_46 ?_
    refine lv_topi (fun x_48 ex_48 => ?_)
    obtain rfl : x_48 = nI (n + 1) := ex_48.trans (nI_add n 1)
    refine va_put (D := (dC, dI)) (ci := 9) (v := .int (nI (n + 1))) (ty := .int) (C := RX9) (T := TX9) (N := 2) hx hb hts hiX9 tyX9 tyX9_ok nmX9 hown hK hP hD hS 0 rfl rfl 1 (by decide) (hts (.fieldLink RX9 13 "ScissorsTable$Tape" "length" "I") (by decide +kernel)) (fun _ h9 => h9) rfl (by decide +kernel) rfl rfl (Nat.le_of_ble_eq_true rfl) dX9_take_47 (fun H locs hP hD hS => ?_)
    have hP : va_P (dC, dI) vwCl [(xTape, .inr (9, [.ref tB, .int (nI (n + 1))])), (tB, .inl (cB, 600, (.inl fb_47)))] H := hP
    have hD : va_D A [(xTape, .inr (9, [.ref tB, .int (nI (n + 1))])), (tB, .inl (cB, 600, (.inl fb_47)))] := hD
    refine lv_iinc (v := 16) (lv' := [(2, .int 16), (3, .int x_2), (0, .ref xTape), (1, .int p0)]) hx hb dX9_take_50 hl (k := 1) rfl (by decide) (by decide) rfl (fun ls hl => ?_)
    refine lv_goto (tgt := 3) hx hb dX9_take_53 (by decide) ?_
    refine lv_iload_n hx hb dX9_take_3 rfl (lv_at hl 0 rfl) ?_
    refine lv_if_lt (tgt := 56) hx hb dX9_take_4 (by decide) (fun c => absurd c (by decide)) (fun _ => ?_)
    refine lv_iload_n hx hb dX9_take_7 rfl (lv_at hl 3 rfl) ?_
    refine lv_iload_n hx hb dX9_take_8 rfl (lv_at hl 0 rfl) ?_
    refine lv_ishr hx hb dX9_take_9 ?_
    refine lv_topi (fun x_49 ex_49 => ?_)
    refine lv_sipush (v := 255) hx hb dX9_take_10 (by decide) ?_
    refine lv_iand hx hb dX9_take_13 ?_
    refine lv_topi (fun x_50 ex_50 => ?_)
    refine lv_istore_n (lv' := [(3, .int x_50), (2, .int 16), (0, .ref xTape), (1, .int p0)]) hx hb dX9_take_14 rfl hl (by decide) rfl (fun ls hl => ?_)
    refine lv_iload_n hx hb dX9_take_15 rfl (lv_at hl 0 rfl) ?_
    refine lv_if_eq (tgt := 50) hx hb dX9_take_16 (by decide) (fun c_51 => ?_) (fun c_51 => ?_)
    · refine lv_iinc (v := 8) (lv' := [(2, .int 8), (3, .int x_50), (0, .ref xTape), (1, .int p0)]) hx hb dX9_take_50 hl (k := 1) rfl (by decide) (by decide) rfl (fun ls hl => ?_)
      refine lv_goto (tgt := 3) hx hb dX9_take_53 (by decide) ?_
      refine lv_iload_n hx hb dX9_take_3 rfl (lv_at hl 0 rfl) ?_
      refine lv_if_lt (tgt := 56) hx hb dX9_take_4 (by decide) (fun c => absurd c (by decide)) (fun _ => ?_)
      refine lv_iload_n hx hb dX9_take_7 rfl (lv_at hl 3 rfl) ?_
      refine lv_iload_n hx hb dX9_take_8 rfl (lv_at hl 0 rfl) ?_
      refine lv_ishr hx hb dX9_take_9 ?_
      refine lv_topi (fun x_52 ex_52 => ?_)
      refine lv_sipush (v := 255) hx hb dX9_take_10 (by decide) ?_
      refine lv_iand hx hb dX9_take_13 ?_
      refine lv_topi (fun x_53 ex_53 => ?_)
      refine lv_istore_n (lv' := [(3, .int x_53), (2, .int 8), (0, .ref xTape), (1, .int p0)]) hx hb dX9_take_14 rfl hl (by decide) rfl (fun ls hl => ?_)
      refine lv_iload_n hx hb dX9_take_15 rfl (lv_at hl 0 rfl) ?_
      refine lv_if_eq (tgt := 50) hx hb dX9_take_16 (by decide) (fun c_54 => ?_) (fun c_54 => ?_)
      · refine lv_iinc (v := 0) (lv' := [(2, .int 0), (3, .int x_53), (0, .ref xTape), (1, .int p0)]) hx hb dX9_take_50 hl (k := 1) rfl (by decide) (by decide) rfl (fun ls hl => ?_)
        refine lv_goto (tgt := 3) hx hb dX9_take_53 (by decide) ?_
        refine lv_iload_n hx hb dX9_take_3 rfl (lv_at hl 0 rfl) ?_
        refine lv_if_lt (tgt := 56) hx hb dX9_take_4 (by decide) (fun c => absurd c (by decide)) (fun _ => ?_)
        refine lv_iload_n hx hb dX9_take_7 rfl (lv_at hl 3 rfl) ?_
        refine lv_iload_n hx hb dX9_take_8 rfl (lv_at hl 0 rfl) ?_
        refine lv_ishr hx hb dX9_take_9 ?_
        refine lv_topi (fun x_55 ex_55 => ?_)
        refine lv_sipush (v := 255) hx hb dX9_take_10 (by decide) ?_
        refine lv_iand hx hb dX9_take_13 ?_
        refine lv_topi (fun x_56 ex_56 => ?_)
        refine lv_istore_n (lv' := [(3, .int x_56), (2, .int 0), (0, .ref xTape), (1, .int p0)]) hx hb dX9_take_14 rfl hl (by decide) rfl (fun ls hl => ?_)
        refine lv_iload_n hx hb dX9_take_15 rfl (lv_at hl 0 rfl) ?_
        refine lv_if_eq (tgt := 50) hx hb dX9_take_16 (by decide) (fun c_57 => ?_) (fun c_57 => ?_)
        · refine lv_iinc (v := (-8)) (lv' := [(2, .int (-8)), (3, .int x_56), (0, .ref xTape), (1, .int p0)]) hx hb dX9_take_50 hl (k := 1) rfl (by decide) (by decide) rfl (fun ls hl => ?_)
          refine lv_goto (tgt := 3) hx hb dX9_take_53 (by decide) ?_
          refine lv_iload_n hx hb dX9_take_3 rfl (lv_at hl 0 rfl) ?_
          refine lv_if_lt (tgt := 56) hx hb dX9_take_4 (by decide) (fun _ => ?_) (fun c => absurd (by decide) c)
          have h24 : sp_by p0 24 = 1 := if_neg (by rw [← ex_1, ← ex_2]; exact c_3)
          have h16 : sp_by p0 16 = 0 := if_pos (by rw [← ex_49, ← ex_50]; exact c_51)
          have h8 : sp_by p0 8 = 0 := if_pos (by rw [← ex_52, ← ex_53]; exact c_54)
          have h0 : sp_by p0 0 = 0 := if_pos (by rw [← ex_55, ← ex_56]; exact c_57)
          have hc : sp_cnt p0 = 1 := by unfold sp_cnt; rw [h24, h16, h8, h0]
          have hP9 := hP.sub (ws' := [(xTape, .inr (9, [.ref tB, .int (nI (n + 1))])), (tB, .inl (cB, 600, (.inl fb_47)))]) [0, 1] rfl
          have hD9 := hD.sub (ws' := [(xTape, .inr (9, [.ref tB, .int (nI (n + 1))])), (tB, .inl (cB, 600, (.inl fb_47)))]) [0, 1] (by decide) rfl
          exact W.vret hx hb hr (fun t ht hW => ⟨⟨(), rfl, trivial, fb_47, by rw [ht, hc]; exact hP9, va_K.moved hW.alike hK, by rw [hc]; exact hD9⟩, hS.F ht⟩) hS.2.2 dX9_take_56
        · refine lv_aload_n hx hb dX9_take_19 rfl (lv_at hl 2 rfl) ?_
          refine va_get (D := (dC, dI)) (ci := 9) (v := .int (nI (n + 1))) (C := RX9) (T := TX9) (N := 2) hx hb hts hiX9 hown hK hP 0 rfl rfl 1 (by decide) (hts (.fieldLink RX9 13 "ScissorsTable$Tape" "length" "I") (by decide +kernel)) (fun _ h9 => h9) rfl dX9_take_20 ?_
          refine lv_sipush (v := 600) hx hb dX9_take_23 (by decide) ?_
          refine lv_icmp_ge (tgt := 50) hx hb dX9_take_26 (by decide) (fun c => absurd c (nI_ge (a := (n + 1)) (b := 600) (by omega) (by decide))) (fun _ => ?_)
          refine lv_aload_n hx hb dX9_take_29 rfl (lv_at hl 2 rfl) ?_
          refine va_get (D := (dC, dI)) (ci := 9) (v := .ref tB) (C := RX9) (T := TX9) (N := 2) hx hb hts hiX9 hown hK hP 0 rfl rfl 0 (by decide) (hts (.fieldLink RX9 9 "ScissorsTable$Tape" "bytes" "[B") (by decide +kernel)) (fun _ h9 => h9) rfl dX9_take_30 ?_
          refine lv_aload_n hx hb dX9_take_33 rfl (lv_at hl 2 rfl) ?_
          refine va_get (D := (dC, dI)) (ci := 9) (v := .int (nI (n + 1))) (C := RX9) (T := TX9) (N := 2) hx hb hts hiX9 hown hK hP 0 rfl rfl 1 (by decide) (hts (.fieldLink RX9 13 "ScissorsTable$Tape" "length" "I") (by decide +kernel)) (fun _ h9 => h9) rfl dX9_take_34 ?_
          refine lv_iload_n hx hb dX9_take_37 rfl (lv_at hl 0 rfl) ?_
          refine lv_i2b hx hb dX9_take_38 rfl ?_
          refine lv_topi (fun x_58 ex_58 => ?_)
          refine va_bast hx hb hK hP hD hS 1 0 rfl rfl (vp_in_nI (by omega) (by decide)) dX9_take_39 (fun H locs hP hD hS => ?_)
          generalize upd fb_47 (nI (n + 1)).toNatClampNeg (vp_nar .byte x_58) = fb_59 at hP hD
          have hP : va_P (dC, dI) vwCl [(xTape, .inr (9, [.ref tB, .int (nI (n + 1))])), (tB, .inl (cB, 600, (.inl fb_59)))] H := hP
          have hD : va_D A [(xTape, .inr (9, [.ref tB, .int (nI (n + 1))])), (tB, .inl (cB, 600, (.inl fb_59)))] := hD
          refine lv_aload_n hx hb dX9_take_40 rfl (lv_at hl 2 rfl) ?_
          refine lv_dup hx hb dX9_take_41 rfl ?_
          refine va_get (D := (dC, dI)) (ci := 9) (v := .int (nI (n + 1))) (C := RX9) (T := TX9) (N := 2) hx hb hts hiX9 hown hK hP 0 rfl rfl 1 (by decide) (hts (.fieldLink RX9 13 "ScissorsTable$Tape" "length" "I") (by decide +kernel)) (fun _ h9 => h9) rfl dX9_take_42 ?_
          refine lv_iconst (v := 1) hx hb dX9_take_45 (by decide) ?_
          refine lv_iadd hx hb dX9_take_46 ?_
          refine lv_topi (fun x_60 ex_60 => ?_)
          obtain rfl : x_60 = nI ((n + 1) + 1) := ex_60.trans (nI_add ((n + 1)) 1)
          refine va_put (D := (dC, dI)) (ci := 9) (v := .int (nI ((n + 1) + 1))) (ty := .int) (C := RX9) (T := TX9) (N := 2) hx hb hts hiX9 tyX9 tyX9_ok nmX9 hown hK hP hD hS 0 rfl rfl 1 (by decide) (hts (.fieldLink RX9 13 "ScissorsTable$Tape" "length" "I") (by decide +kernel)) (fun _ h9 => h9) rfl (by decide +kernel) rfl rfl (Nat.le_of_ble_eq_true rfl) dX9_take_47 (fun H locs hP hD hS => ?_)
          have hP : va_P (dC, dI) vwCl [(xTape, .inr (9, [.ref tB, .int (nI ((n + 1) + 1))])), (tB, .inl (cB, 600, (.inl fb_59)))] H := hP
          have hD : va_D A [(xTape, .inr (9, [.ref tB, .int (nI ((n + 1) + 1))])), (tB, .inl (cB, 600, (.inl fb_59)))] := hD
          refine lv_iinc (v := (-8)) (lv' := [(2, .int (-8)), (3, .int x_56), (0, .ref xTape), (1, .int p0)]) hx hb dX9_take_50 hl (k := 1) rfl (by decide) (by decide) rfl (fun ls hl => ?_)
          refine lv_goto (tgt := 3) hx hb dX9_take_53 (by decide) ?_
          refine lv_iload_n hx hb dX9_take_3 rfl (lv_at hl 0 rfl) ?_
          refine lv_if_lt (tgt := 56) hx hb dX9_take_4 (by decide) (fun _ => ?_) (fun c => absurd (by decide) c)
          have h24 : sp_by p0 24 = 1 := if_neg (by rw [← ex_1, ← ex_2]; exact c_3)
          have h16 : sp_by p0 16 = 0 := if_pos (by rw [← ex_49, ← ex_50]; exact c_51)
          have h8 : sp_by p0 8 = 0 := if_pos (by rw [← ex_52, ← ex_53]; exact c_54)
          have h0 : sp_by p0 0 = 1 := if_neg (by rw [← ex_55, ← ex_56]; exact c_57)
          have hc : sp_cnt p0 = 2 := by unfold sp_cnt; rw [h24, h16, h8, h0]
          have hP9 := hP.sub (ws' := [(xTape, .inr (9, [.ref tB, .int (nI (n + 2))])), (tB, .inl (cB, 600, (.inl fb_59)))]) [0, 1] rfl
          have hD9 := hD.sub (ws' := [(xTape, .inr (9, [.ref tB, .int (nI (n + 2))])), (tB, .inl (cB, 600, (.inl fb_59)))]) [0, 1] (by decide) rfl
          exact W.vret hx hb hr (fun t ht hW => ⟨⟨(), rfl, trivial, fb_59, by rw [ht, hc]; exact hP9, va_K.moved hW.alike hK, by rw [hc]; exact hD9⟩, hS.F ht⟩) hS.2.2 dX9_take_56
      · refine lv_aload_n hx hb dX9_take_19 rfl (lv_at hl 2 rfl) ?_
        refine va_get (D := (dC, dI)) (ci := 9) (v := .int (nI (n + 1))) (C := RX9) (T := TX9) (N := 2) hx hb hts hiX9 hown hK hP 0 rfl rfl 1 (by decide) (hts (.fieldLink RX9 13 "ScissorsTable$Tape" "length" "I") (by decide +kernel)) (fun _ h9 => h9) rfl dX9_take_20 ?_
        refine lv_sipush (v := 600) hx hb dX9_take_23 (by decide) ?_
        refine lv_icmp_ge (tgt := 50) hx hb dX9_take_26 (by decide) (fun c => absurd c (nI_ge (a := (n + 1)) (b := 600) (by omega) (by decide))) (fun _ => ?_)
        refine lv_aload_n hx hb dX9_take_29 rfl (lv_at hl 2 rfl) ?_
        refine va_get (D := (dC, dI)) (ci := 9) (v := .ref tB) (C := RX9) (T := TX9) (N := 2) hx hb hts hiX9 hown hK hP 0 rfl rfl 0 (by decide) (hts (.fieldLink RX9 9 "ScissorsTable$Tape" "bytes" "[B") (by decide +kernel)) (fun _ h9 => h9) rfl dX9_take_30 ?_
        refine lv_aload_n hx hb dX9_take_33 rfl (lv_at hl 2 rfl) ?_
        refine va_get (D := (dC, dI)) (ci := 9) (v := .int (nI (n + 1))) (C := RX9) (T := TX9) (N := 2) hx hb hts hiX9 hown hK hP 0 rfl rfl 1 (by decide) (hts (.fieldLink RX9 13 "ScissorsTable$Tape" "length" "I") (by decide +kernel)) (fun _ h9 => h9) rfl dX9_take_34 ?_
        refine lv_iload_n hx hb dX9_take_37 rfl (lv_at hl 0 rfl) ?_
        refine lv_i2b hx hb dX9_take_38 rfl ?_
        refine lv_topi (fun x_61 ex_61 => ?_)
        refine va_bast hx hb hK hP hD hS 1 0 rfl rfl (vp_in_nI (by omega) (by decide)) dX9_take_39 (fun H locs hP hD hS => ?_)
        generalize upd fb_47 (nI (n + 1)).toNatClampNeg (vp_nar .byte x_61) = fb_62 at hP hD
        have hP : va_P (dC, dI) vwCl [(xTape, .inr (9, [.ref tB, .int (nI (n + 1))])), (tB, .inl (cB, 600, (.inl fb_62)))] H := hP
        have hD : va_D A [(xTape, .inr (9, [.ref tB, .int (nI (n + 1))])), (tB, .inl (cB, 600, (.inl fb_62)))] := hD
        refine lv_aload_n hx hb dX9_take_40 rfl (lv_at hl 2 rfl) ?_
        refine lv_dup hx hb dX9_take_41 rfl ?_
        refine va_get (D := (dC, dI)) (ci := 9) (v := .int (nI (n + 1))) (C := RX9) (T := TX9) (N := 2) hx hb hts hiX9 hown hK hP 0 rfl rfl 1 (by decide) (hts (.fieldLink RX9 13 "ScissorsTable$Tape" "length" "I") (by decide +kernel)) (fun _ h9 => h9) rfl dX9_take_42 ?_
        refine lv_iconst (v := 1) hx hb dX9_take_45 (by decide) ?_
        refine lv_iadd hx hb dX9_take_46 ?_
        refine lv_topi (fun x_63 ex_63 => ?_)
        obtain rfl : x_63 = nI ((n + 1) + 1) := ex_63.trans (nI_add ((n + 1)) 1)
        refine va_put (D := (dC, dI)) (ci := 9) (v := .int (nI ((n + 1) + 1))) (ty := .int) (C := RX9) (T := TX9) (N := 2) hx hb hts hiX9 tyX9 tyX9_ok nmX9 hown hK hP hD hS 0 rfl rfl 1 (by decide) (hts (.fieldLink RX9 13 "ScissorsTable$Tape" "length" "I") (by decide +kernel)) (fun _ h9 => h9) rfl (by decide +kernel) rfl rfl (Nat.le_of_ble_eq_true rfl) dX9_take_47 (fun H locs hP hD hS => ?_)
        have hP : va_P (dC, dI) vwCl [(xTape, .inr (9, [.ref tB, .int (nI ((n + 1) + 1))])), (tB, .inl (cB, 600, (.inl fb_62)))] H := hP
        have hD : va_D A [(xTape, .inr (9, [.ref tB, .int (nI ((n + 1) + 1))])), (tB, .inl (cB, 600, (.inl fb_62)))] := hD
        refine lv_iinc (v := 0) (lv' := [(2, .int 0), (3, .int x_53), (0, .ref xTape), (1, .int p0)]) hx hb dX9_take_50 hl (k := 1) rfl (by decide) (by decide) rfl (fun ls hl => ?_)
        refine lv_goto (tgt := 3) hx hb dX9_take_53 (by decide) ?_
        refine lv_iload_n hx hb dX9_take_3 rfl (lv_at hl 0 rfl) ?_
        refine lv_if_lt (tgt := 56) hx hb dX9_take_4 (by decide) (fun c => absurd c (by decide)) (fun _ => ?_)
        refine lv_iload_n hx hb dX9_take_7 rfl (lv_at hl 3 rfl) ?_
        refine lv_iload_n hx hb dX9_take_8 rfl (lv_at hl 0 rfl) ?_
        refine lv_ishr hx hb dX9_take_9 ?_
        refine lv_topi (fun x_64 ex_64 => ?_)
        refine lv_sipush (v := 255) hx hb dX9_take_10 (by decide) ?_
        refine lv_iand hx hb dX9_take_13 ?_
        refine lv_topi (fun x_65 ex_65 => ?_)
        refine lv_istore_n (lv' := [(3, .int x_65), (2, .int 0), (0, .ref xTape), (1, .int p0)]) hx hb dX9_take_14 rfl hl (by decide) rfl (fun ls hl => ?_)
        refine lv_iload_n hx hb dX9_take_15 rfl (lv_at hl 0 rfl) ?_
        refine lv_if_eq (tgt := 50) hx hb dX9_take_16 (by decide) (fun c_66 => ?_) (fun c_66 => ?_)
        · refine lv_iinc (v := (-8)) (lv' := [(2, .int (-8)), (3, .int x_65), (0, .ref xTape), (1, .int p0)]) hx hb dX9_take_50 hl (k := 1) rfl (by decide) (by decide) rfl (fun ls hl => ?_)
          refine lv_goto (tgt := 3) hx hb dX9_take_53 (by decide) ?_
          refine lv_iload_n hx hb dX9_take_3 rfl (lv_at hl 0 rfl) ?_
          refine lv_if_lt (tgt := 56) hx hb dX9_take_4 (by decide) (fun _ => ?_) (fun c => absurd (by decide) c)
          have h24 : sp_by p0 24 = 1 := if_neg (by rw [← ex_1, ← ex_2]; exact c_3)
          have h16 : sp_by p0 16 = 0 := if_pos (by rw [← ex_49, ← ex_50]; exact c_51)
          have h8 : sp_by p0 8 = 1 := if_neg (by rw [← ex_52, ← ex_53]; exact c_54)
          have h0 : sp_by p0 0 = 0 := if_pos (by rw [← ex_64, ← ex_65]; exact c_66)
          have hc : sp_cnt p0 = 2 := by unfold sp_cnt; rw [h24, h16, h8, h0]
          have hP9 := hP.sub (ws' := [(xTape, .inr (9, [.ref tB, .int (nI (n + 2))])), (tB, .inl (cB, 600, (.inl fb_62)))]) [0, 1] rfl
          have hD9 := hD.sub (ws' := [(xTape, .inr (9, [.ref tB, .int (nI (n + 2))])), (tB, .inl (cB, 600, (.inl fb_62)))]) [0, 1] (by decide) rfl
          exact W.vret hx hb hr (fun t ht hW => ⟨⟨(), rfl, trivial, fb_62, by rw [ht, hc]; exact hP9, va_K.moved hW.alike hK, by rw [hc]; exact hD9⟩, hS.F ht⟩) hS.2.2 dX9_take_56
        · refine lv_aload_n hx hb dX9_take_19 rfl (lv_at hl 2 rfl) ?_
          refine va_get (D := (dC, dI)) (ci := 9) (v := .int (nI ((n + 1) + 1))) (C := RX9) (T := TX9) (N := 2) hx hb hts hiX9 hown hK hP 0 rfl rfl 1 (by decide) (hts (.fieldLink RX9 13 "ScissorsTable$Tape" "length" "I") (by decide +kernel)) (fun _ h9 => h9) rfl dX9_take_20 ?_
          refine lv_sipush (v := 600) hx hb dX9_take_23 (by decide) ?_
          refine lv_icmp_ge (tgt := 50) hx hb dX9_take_26 (by decide) (fun c => absurd c (nI_ge (a := ((n + 1) + 1)) (b := 600) (by omega) (by decide))) (fun _ => ?_)
          refine lv_aload_n hx hb dX9_take_29 rfl (lv_at hl 2 rfl) ?_
          refine va_get (D := (dC, dI)) (ci := 9) (v := .ref tB) (C := RX9) (T := TX9) (N := 2) hx hb hts hiX9 hown hK hP 0 rfl rfl 0 (by decide) (hts (.fieldLink RX9 9 "ScissorsTable$Tape" "bytes" "[B") (by decide +kernel)) (fun _ h9 => h9) rfl dX9_take_30 ?_
          refine lv_aload_n hx hb dX9_take_33 rfl (lv_at hl 2 rfl) ?_
          refine va_get (D := (dC, dI)) (ci := 9) (v := .int (nI ((n + 1) + 1))) (C := RX9) (T := TX9) (N := 2) hx hb hts hiX9 hown hK hP 0 rfl rfl 1 (by decide) (hts (.fieldLink RX9 13 "ScissorsTable$Tape" "length" "I") (by decide +kernel)) (fun _ h9 => h9) rfl dX9_take_34 ?_
          refine lv_iload_n hx hb dX9_take_37 rfl (lv_at hl 0 rfl) ?_
          refine lv_i2b hx hb dX9_take_38 rfl ?_
          refine lv_topi (fun x_67 ex_67 => ?_)
          refine va_bast hx hb hK hP hD hS 1 0 rfl rfl (vp_in_nI (by omega) (by decide)) dX9_take_39 (fun H locs hP hD hS => ?_)
          generalize upd fb_62 (nI ((n + 1) + 1)).toNatClampNeg (vp_nar .byte x_67) = fb_68 at hP hD
          have hP : va_P (dC, dI) vwCl [(xTape, .inr (9, [.ref tB, .int (nI ((n + 1) + 1))])), (tB, .inl (cB, 600, (.inl fb_68)))] H := hP
          have hD : va_D A [(xTape, .inr (9, [.ref tB, .int (nI ((n + 1) + 1))])), (tB, .inl (cB, 600, (.inl fb_68)))] := hD
          refine lv_aload_n hx hb dX9_take_40 rfl (lv_at hl 2 rfl) ?_
          refine lv_dup hx hb dX9_take_41 rfl ?_
          refine va_get (D := (dC, dI)) (ci := 9) (v := .int (nI ((n + 1) + 1))) (C := RX9) (T := TX9) (N := 2) hx hb hts hiX9 hown hK hP 0 rfl rfl 1 (by decide) (hts (.fieldLink RX9 13 "ScissorsTable$Tape" "length" "I") (by decide +kernel)) (fun _ h9 => h9) rfl dX9_take_42 ?_
          refine lv_iconst (v := 1) hx hb dX9_take_45 (by decide) ?_
          refine lv_iadd hx hb dX9_take_46 ?_
          refine lv_topi (fun x_69 ex_69 => ?_)
          obtain rfl : x_69 = nI (((n + 1) + 1) + 1) := ex_69.trans (nI_add (((n + 1) + 1)) 1)
          refine va_put (D := (dC, dI)) (ci := 9) (v := .int (nI (((n + 1) + 1) + 1))) (ty := .int) (C := RX9) (T := TX9) (N := 2) hx hb hts hiX9 tyX9 tyX9_ok nmX9 hown hK hP hD hS 0 rfl rfl 1 (by decide) (hts (.fieldLink RX9 13 "ScissorsTable$Tape" "length" "I") (by decide +kernel)) (fun _ h9 => h9) rfl (by decide +kernel) rfl rfl (Nat.le_of_ble_eq_true rfl) dX9_take_47 (fun H locs hP hD hS => ?_)
          have hP : va_P (dC, dI) vwCl [(xTape, .inr (9, [.ref tB, .int (nI (((n + 1) + 1) + 1))])), (tB, .inl (cB, 600, (.inl fb_68)))] H := hP
          have hD : va_D A [(xTape, .inr (9, [.ref tB, .int (nI (((n + 1) + 1) + 1))])), (tB, .inl (cB, 600, (.inl fb_68)))] := hD
          refine lv_iinc (v := (-8)) (lv' := [(2, .int (-8)), (3, .int x_65), (0, .ref xTape), (1, .int p0)]) hx hb dX9_take_50 hl (k := 1) rfl (by decide) (by decide) rfl (fun ls hl => ?_)
          refine lv_goto (tgt := 3) hx hb dX9_take_53 (by decide) ?_
          refine lv_iload_n hx hb dX9_take_3 rfl (lv_at hl 0 rfl) ?_
          refine lv_if_lt (tgt := 56) hx hb dX9_take_4 (by decide) (fun _ => ?_) (fun c => absurd (by decide) c)
          have h24 : sp_by p0 24 = 1 := if_neg (by rw [← ex_1, ← ex_2]; exact c_3)
          have h16 : sp_by p0 16 = 0 := if_pos (by rw [← ex_49, ← ex_50]; exact c_51)
          have h8 : sp_by p0 8 = 1 := if_neg (by rw [← ex_52, ← ex_53]; exact c_54)
          have h0 : sp_by p0 0 = 1 := if_neg (by rw [← ex_64, ← ex_65]; exact c_66)
          have hc : sp_cnt p0 = 3 := by unfold sp_cnt; rw [h24, h16, h8, h0]
          have hP9 := hP.sub (ws' := [(xTape, .inr (9, [.ref tB, .int (nI (n + 3))])), (tB, .inl (cB, 600, (.inl fb_68)))]) [0, 1] rfl
          have hD9 := hD.sub (ws' := [(xTape, .inr (9, [.ref tB, .int (nI (n + 3))])), (tB, .inl (cB, 600, (.inl fb_68)))]) [0, 1] (by decide) rfl
          exact W.vret hx hb hr (fun t ht hW => ⟨⟨(), rfl, trivial, fb_68, by rw [ht, hc]; exact hP9, va_K.moved hW.alike hK, by rw [hc]; exact hD9⟩, hS.F ht⟩) hS.2.2 dX9_take_56
    · refine lv_aload_n hx hb dX9_take_19 rfl (lv_at hl 2 rfl) ?_
      refine va_get (D := (dC, dI)) (ci := 9) (v := .int (nI (n + 1))) (C := RX9) (T := TX9) (N := 2) hx hb hts hiX9 hown hK hP 0 rfl rfl 1 (by decide) (hts (.fieldLink RX9 13 "ScissorsTable$Tape" "length" "I") (by decide +kernel)) (fun _ h9 => h9) rfl dX9_take_20 ?_
      refine lv_sipush (v := 600) hx hb dX9_take_23 (by decide) ?_
      refine lv_icmp_ge (tgt := 50) hx hb dX9_take_26 (by decide) (fun c => absurd c (nI_ge (a := (n + 1)) (b := 600) (by omega) (by decide))) (fun _ => ?_)
      refine lv_aload_n hx hb dX9_take_29 rfl (lv_at hl 2 rfl) ?_
      refine va_get (D := (dC, dI)) (ci := 9) (v := .ref tB) (C := RX9) (T := TX9) (N := 2) hx hb hts hiX9 hown hK hP 0 rfl rfl 0 (by decide) (hts (.fieldLink RX9 9 "ScissorsTable$Tape" "bytes" "[B") (by decide +kernel)) (fun _ h9 => h9) rfl dX9_take_30 ?_
      refine lv_aload_n hx hb dX9_take_33 rfl (lv_at hl 2 rfl) ?_
      refine va_get (D := (dC, dI)) (ci := 9) (v := .int (nI (n + 1))) (C := RX9) (T := TX9) (N := 2) hx hb hts hiX9 hown hK hP 0 rfl rfl 1 (by decide) (hts (.fieldLink RX9 13 "ScissorsTable$Tape" "length" "I") (by decide +kernel)) (fun _ h9 => h9) rfl dX9_take_34 ?_
      refine lv_iload_n hx hb dX9_take_37 rfl (lv_at hl 0 rfl) ?_
      refine lv_i2b hx hb dX9_take_38 rfl ?_
      refine lv_topi (fun x_70 ex_70 => ?_)
      refine va_bast hx hb hK hP hD hS 1 0 rfl rfl (vp_in_nI (by omega) (by decide)) dX9_take_39 (fun H locs hP hD hS => ?_)
      generalize upd fb_47 (nI (n + 1)).toNatClampNeg (vp_nar .byte x_70) = fb_71 at hP hD
      have hP : va_P (dC, dI) vwCl [(xTape, .inr (9, [.ref tB, .int (nI (n + 1))])), (tB, .inl (cB, 600, (.inl fb_71)))] H := hP
      have hD : va_D A [(xTape, .inr (9, [.ref tB, .int (nI (n + 1))])), (tB, .inl (cB, 600, (.inl fb_71)))] := hD
      refine lv_aload_n hx hb dX9_take_40 rfl (lv_at hl 2 rfl) ?_
      refine lv_dup hx hb dX9_take_41 rfl ?_
      refine va_get (D := (dC, dI)) (ci := 9) (v := .int (nI (n + 1))) (C := RX9) (T := TX9) (N := 2) hx hb hts hiX9 hown hK hP 0 rfl rfl 1 (by decide) (hts (.fieldLink RX9 13 "ScissorsTable$Tape" "length" "I") (by decide +kernel)) (fun _ h9 => h9) rfl dX9_take_42 ?_
      refine lv_iconst (v := 1) hx hb dX9_take_45 (by decide) ?_
      refine lv_iadd hx hb dX9_take_46 ?_
      refine lv_topi (fun x_72 ex_72 => ?_)
      obtain rfl : x_72 = nI ((n + 1) + 1) := ex_72.trans (nI_add ((n + 1)) 1)
      refine va_put (D := (dC, dI)) (ci := 9) (v := .int (nI ((n + 1) + 1))) (ty := .int) (C := RX9) (T := TX9) (N := 2) hx hb hts hiX9 tyX9 tyX9_ok nmX9 hown hK hP hD hS 0 rfl rfl 1 (by decide) (hts (.fieldLink RX9 13 "ScissorsTable$Tape" "length" "I") (by decide +kernel)) (fun _ h9 => h9) rfl (by decide +kernel) rfl rfl (Nat.le_of_ble_eq_true rfl) dX9_take_47 (fun H locs hP hD hS => ?_)
      have hP : va_P (dC, dI) vwCl [(xTape, .inr (9, [.ref tB, .int (nI ((n + 1) + 1))])), (tB, .inl (cB, 600, (.inl fb_71)))] H := hP
      have hD : va_D A [(xTape, .inr (9, [.ref tB, .int (nI ((n + 1) + 1))])), (tB, .inl (cB, 600, (.inl fb_71)))] := hD
      refine lv_iinc (v := 8) (lv' := [(2, .int 8), (3, .int x_50), (0, .ref xTape), (1, .int p0)]) hx hb dX9_take_50 hl (k := 1) rfl (by decide) (by decide) rfl (fun ls hl => ?_)
      refine lv_goto (tgt := 3) hx hb dX9_take_53 (by decide) ?_
      refine lv_iload_n hx hb dX9_take_3 rfl (lv_at hl 0 rfl) ?_
      refine lv_if_lt (tgt := 56) hx hb dX9_take_4 (by decide) (fun c => absurd c (by decide)) (fun _ => ?_)
      refine lv_iload_n hx hb dX9_take_7 rfl (lv_at hl 3 rfl) ?_
      refine lv_iload_n hx hb dX9_take_8 rfl (lv_at hl 0 rfl) ?_
      refine lv_ishr hx hb dX9_take_9 ?_
      refine lv_topi (fun x_73 ex_73 => ?_)
      refine lv_sipush (v := 255) hx hb dX9_take_10 (by decide) ?_
      refine lv_iand hx hb dX9_take_13 ?_
      refine lv_topi (fun x_74 ex_74 => ?_)
      refine lv_istore_n (lv' := [(3, .int x_74), (2, .int 8), (0, .ref xTape), (1, .int p0)]) hx hb dX9_take_14 rfl hl (by decide) rfl (fun ls hl => ?_)
      refine lv_iload_n hx hb dX9_take_15 rfl (lv_at hl 0 rfl) ?_
      refine lv_if_eq (tgt := 50) hx hb dX9_take_16 (by decide) (fun c_75 => ?_) (fun c_75 => ?_)
      · refine lv_iinc (v := 0) (lv' := [(2, .int 0), (3, .int x_74), (0, .ref xTape), (1, .int p0)]) hx hb dX9_take_50 hl (k := 1) rfl (by decide) (by decide) rfl (fun ls hl => ?_)
        refine lv_goto (tgt := 3) hx hb dX9_take_53 (by decide) ?_
        refine lv_iload_n hx hb dX9_take_3 rfl (lv_at hl 0 rfl) ?_
        refine lv_if_lt (tgt := 56) hx hb dX9_take_4 (by decide) (fun c => absurd c (by decide)) (fun _ => ?_)
        refine lv_iload_n hx hb dX9_take_7 rfl (lv_at hl 3 rfl) ?_
        refine lv_iload_n hx hb dX9_take_8 rfl (lv_at hl 0 rfl) ?_
        refine lv_ishr hx hb dX9_take_9 ?_
        refine lv_topi (fun x_76 ex_76 => ?_)
        refine lv_sipush (v := 255) hx hb dX9_take_10 (by decide) ?_
        refine lv_iand hx hb dX9_take_13 ?_
        refine lv_topi (fun x_77 ex_77 => ?_)
        refine lv_istore_n (lv' := [(3, .int x_77), (2, .int 0), (0, .ref xTape), (1, .int p0)]) hx hb dX9_take_14 rfl hl (by decide) rfl (fun ls hl => ?_)
        refine lv_iload_n hx hb dX9_take_15 rfl (lv_at hl 0 rfl) ?_
        refine lv_if_eq (tgt := 50) hx hb dX9_take_16 (by decide) (fun c_78 => ?_) (fun c_78 => ?_)
        · refine lv_iinc (v := (-8)) (lv' := [(2, .int (-8)), (3, .int x_77), (0, .ref xTape), (1, .int p0)]) hx hb dX9_take_50 hl (k := 1) rfl (by decide) (by decide) rfl (fun ls hl => ?_)
          refine lv_goto (tgt := 3) hx hb dX9_take_53 (by decide) ?_
          refine lv_iload_n hx hb dX9_take_3 rfl (lv_at hl 0 rfl) ?_
          refine lv_if_lt (tgt := 56) hx hb dX9_take_4 (by decide) (fun _ => ?_) (fun c => absurd (by decide) c)
          have h24 : sp_by p0 24 = 1 := if_neg (by rw [← ex_1, ← ex_2]; exact c_3)
          have h16 : sp_by p0 16 = 1 := if_neg (by rw [← ex_49, ← ex_50]; exact c_51)
          have h8 : sp_by p0 8 = 0 := if_pos (by rw [← ex_73, ← ex_74]; exact c_75)
          have h0 : sp_by p0 0 = 0 := if_pos (by rw [← ex_76, ← ex_77]; exact c_78)
          have hc : sp_cnt p0 = 2 := by unfold sp_cnt; rw [h24, h16, h8, h0]
          have hP9 := hP.sub (ws' := [(xTape, .inr (9, [.ref tB, .int (nI (n + 2))])), (tB, .inl (cB, 600, (.inl fb_71)))]) [0, 1] rfl
          have hD9 := hD.sub (ws' := [(xTape, .inr (9, [.ref tB, .int (nI (n + 2))])), (tB, .inl (cB, 600, (.inl fb_71)))]) [0, 1] (by decide) rfl
          exact W.vret hx hb hr (fun t ht hW => ⟨⟨(), rfl, trivial, fb_71, by rw [ht, hc]; exact hP9, va_K.moved hW.alike hK, by rw [hc]; exact hD9⟩, hS.F ht⟩) hS.2.2 dX9_take_56
        · refine lv_aload_n hx hb dX9_take_19 rfl (lv_at hl 2 rfl) ?_
          refine va_get (D := (dC, dI)) (ci := 9) (v := .int (nI ((n + 1) + 1))) (C := RX9) (T := TX9) (N := 2) hx hb hts hiX9 hown hK hP 0 rfl rfl 1 (by decide) (hts (.fieldLink RX9 13 "ScissorsTable$Tape" "length" "I") (by decide +kernel)) (fun _ h9 => h9) rfl dX9_take_20 ?_
          refine lv_sipush (v := 600) hx hb dX9_take_23 (by decide) ?_
          refine lv_icmp_ge (tgt := 50) hx hb dX9_take_26 (by decide) (fun c => absurd c (nI_ge (a := ((n + 1) + 1)) (b := 600) (by omega) (by decide))) (fun _ => ?_)
          refine lv_aload_n hx hb dX9_take_29 rfl (lv_at hl 2 rfl) ?_
          refine va_get (D := (dC, dI)) (ci := 9) (v := .ref tB) (C := RX9) (T := TX9) (N := 2) hx hb hts hiX9 hown hK hP 0 rfl rfl 0 (by decide) (hts (.fieldLink RX9 9 "ScissorsTable$Tape" "bytes" "[B") (by decide +kernel)) (fun _ h9 => h9) rfl dX9_take_30 ?_
          refine lv_aload_n hx hb dX9_take_33 rfl (lv_at hl 2 rfl) ?_
          refine va_get (D := (dC, dI)) (ci := 9) (v := .int (nI ((n + 1) + 1))) (C := RX9) (T := TX9) (N := 2) hx hb hts hiX9 hown hK hP 0 rfl rfl 1 (by decide) (hts (.fieldLink RX9 13 "ScissorsTable$Tape" "length" "I") (by decide +kernel)) (fun _ h9 => h9) rfl dX9_take_34 ?_
          refine lv_iload_n hx hb dX9_take_37 rfl (lv_at hl 0 rfl) ?_
          refine lv_i2b hx hb dX9_take_38 rfl ?_
          refine lv_topi (fun x_79 ex_79 => ?_)
          refine va_bast hx hb hK hP hD hS 1 0 rfl rfl (vp_in_nI (by omega) (by decide)) dX9_take_39 (fun H locs hP hD hS => ?_)
          generalize upd fb_71 (nI ((n + 1) + 1)).toNatClampNeg (vp_nar .byte x_79) = fb_80 at hP hD
          have hP : va_P (dC, dI) vwCl [(xTape, .inr (9, [.ref tB, .int (nI ((n + 1) + 1))])), (tB, .inl (cB, 600, (.inl fb_80)))] H := hP
          have hD : va_D A [(xTape, .inr (9, [.ref tB, .int (nI ((n + 1) + 1))])), (tB, .inl (cB, 600, (.inl fb_80)))] := hD
          refine lv_aload_n hx hb dX9_take_40 rfl (lv_at hl 2 rfl) ?_
          refine lv_dup hx hb dX9_take_41 rfl ?_
          refine va_get (D := (dC, dI)) (ci := 9) (v := .int (nI ((n + 1) + 1))) (C := RX9) (T := TX9) (N := 2) hx hb hts hiX9 hown hK hP 0 rfl rfl 1 (by decide) (hts (.fieldLink RX9 13 "ScissorsTable$Tape" "length" "I") (by decide +kernel)) (fun _ h9 => h9) rfl dX9_take_42 ?_
          refine lv_iconst (v := 1) hx hb dX9_take_45 (by decide) ?_
          refine lv_iadd hx hb dX9_take_46 ?_
          refine lv_topi (fun x_81 ex_81 => ?_)
          obtain rfl : x_81 = nI (((n + 1) + 1) + 1) := ex_81.trans (nI_add (((n + 1) + 1)) 1)
          refine va_put (D := (dC, dI)) (ci := 9) (v := .int (nI (((n + 1) + 1) + 1))) (ty := .int) (C := RX9) (T := TX9) (N := 2) hx hb hts hiX9 tyX9 tyX9_ok nmX9 hown hK hP hD hS 0 rfl rfl 1 (by decide) (hts (.fieldLink RX9 13 "ScissorsTable$Tape" "length" "I") (by decide +kernel)) (fun _ h9 => h9) rfl (by decide +kernel) rfl rfl (Nat.le_of_ble_eq_true rfl) dX9_take_47 (fun H locs hP hD hS => ?_)
          have hP : va_P (dC, dI) vwCl [(xTape, .inr (9, [.ref tB, .int (nI (((n + 1) + 1) + 1))])), (tB, .inl (cB, 600, (.inl fb_80)))] H := hP
          have hD : va_D A [(xTape, .inr (9, [.ref tB, .int (nI (((n + 1) + 1) + 1))])), (tB, .inl (cB, 600, (.inl fb_80)))] := hD
          refine lv_iinc (v := (-8)) (lv' := [(2, .int (-8)), (3, .int x_77), (0, .ref xTape), (1, .int p0)]) hx hb dX9_take_50 hl (k := 1) rfl (by decide) (by decide) rfl (fun ls hl => ?_)
          refine lv_goto (tgt := 3) hx hb dX9_take_53 (by decide) ?_
          refine lv_iload_n hx hb dX9_take_3 rfl (lv_at hl 0 rfl) ?_
          refine lv_if_lt (tgt := 56) hx hb dX9_take_4 (by decide) (fun _ => ?_) (fun c => absurd (by decide) c)
          have h24 : sp_by p0 24 = 1 := if_neg (by rw [← ex_1, ← ex_2]; exact c_3)
          have h16 : sp_by p0 16 = 1 := if_neg (by rw [← ex_49, ← ex_50]; exact c_51)
          have h8 : sp_by p0 8 = 0 := if_pos (by rw [← ex_73, ← ex_74]; exact c_75)
          have h0 : sp_by p0 0 = 1 := if_neg (by rw [← ex_76, ← ex_77]; exact c_78)
          have hc : sp_cnt p0 = 3 := by unfold sp_cnt; rw [h24, h16, h8, h0]
          have hP9 := hP.sub (ws' := [(xTape, .inr (9, [.ref tB, .int (nI (n + 3))])), (tB, .inl (cB, 600, (.inl fb_80)))]) [0, 1] rfl
          have hD9 := hD.sub (ws' := [(xTape, .inr (9, [.ref tB, .int (nI (n + 3))])), (tB, .inl (cB, 600, (.inl fb_80)))]) [0, 1] (by decide) rfl
          exact W.vret hx hb hr (fun t ht hW => ⟨⟨(), rfl, trivial, fb_80, by rw [ht, hc]; exact hP9, va_K.moved hW.alike hK, by rw [hc]; exact hD9⟩, hS.F ht⟩) hS.2.2 dX9_take_56
      · refine lv_aload_n hx hb dX9_take_19 rfl (lv_at hl 2 rfl) ?_
        refine va_get (D := (dC, dI)) (ci := 9) (v := .int (nI ((n + 1) + 1))) (C := RX9) (T := TX9) (N := 2) hx hb hts hiX9 hown hK hP 0 rfl rfl 1 (by decide) (hts (.fieldLink RX9 13 "ScissorsTable$Tape" "length" "I") (by decide +kernel)) (fun _ h9 => h9) rfl dX9_take_20 ?_
        refine lv_sipush (v := 600) hx hb dX9_take_23 (by decide) ?_
        refine lv_icmp_ge (tgt := 50) hx hb dX9_take_26 (by decide) (fun c => absurd c (nI_ge (a := ((n + 1) + 1)) (b := 600) (by omega) (by decide))) (fun _ => ?_)
        refine lv_aload_n hx hb dX9_take_29 rfl (lv_at hl 2 rfl) ?_
        refine va_get (D := (dC, dI)) (ci := 9) (v := .ref tB) (C := RX9) (T := TX9) (N := 2) hx hb hts hiX9 hown hK hP 0 rfl rfl 0 (by decide) (hts (.fieldLink RX9 9 "ScissorsTable$Tape" "bytes" "[B") (by decide +kernel)) (fun _ h9 => h9) rfl dX9_take_30 ?_
        refine lv_aload_n hx hb dX9_take_33 rfl (lv_at hl 2 rfl) ?_
        refine va_get (D := (dC, dI)) (ci := 9) (v := .int (nI ((n + 1) + 1))) (C := RX9) (T := TX9) (N := 2) hx hb hts hiX9 hown hK hP 0 rfl rfl 1 (by decide) (hts (.fieldLink RX9 13 "ScissorsTable$Tape" "length" "I") (by decide +kernel)) (fun _ h9 => h9) rfl dX9_take_34 ?_
        refine lv_iload_n hx hb dX9_take_37 rfl (lv_at hl 0 rfl) ?_
        refine lv_i2b hx hb dX9_take_38 rfl ?_
        refine lv_topi (fun x_82 ex_82 => ?_)
        refine va_bast hx hb hK hP hD hS 1 0 rfl rfl (vp_in_nI (by omega) (by decide)) dX9_take_39 (fun H locs hP hD hS => ?_)
        generalize upd fb_71 (nI ((n + 1) + 1)).toNatClampNeg (vp_nar .byte x_82) = fb_83 at hP hD
        have hP : va_P (dC, dI) vwCl [(xTape, .inr (9, [.ref tB, .int (nI ((n + 1) + 1))])), (tB, .inl (cB, 600, (.inl fb_83)))] H := hP
        have hD : va_D A [(xTape, .inr (9, [.ref tB, .int (nI ((n + 1) + 1))])), (tB, .inl (cB, 600, (.inl fb_83)))] := hD
        refine lv_aload_n hx hb dX9_take_40 rfl (lv_at hl 2 rfl) ?_
        refine lv_dup hx hb dX9_take_41 rfl ?_
        refine va_get (D := (dC, dI)) (ci := 9) (v := .int (nI ((n + 1) + 1))) (C := RX9) (T := TX9) (N := 2) hx hb hts hiX9 hown hK hP 0 rfl rfl 1 (by decide) (hts (.fieldLink RX9 13 "ScissorsTable$Tape" "length" "I") (by decide +kernel)) (fun _ h9 => h9) rfl dX9_take_42 ?_
        refine lv_iconst (v := 1) hx hb dX9_take_45 (by decide) ?_
        refine lv_iadd hx hb dX9_take_46 ?_
        refine lv_topi (fun x_84 ex_84 => ?_)
        obtain rfl : x_84 = nI (((n + 1) + 1) + 1) := ex_84.trans (nI_add (((n + 1) + 1)) 1)
        refine va_put (D := (dC, dI)) (ci := 9) (v := .int (nI (((n + 1) + 1) + 1))) (ty := .int) (C := RX9) (T := TX9) (N := 2) hx hb hts hiX9 tyX9 tyX9_ok nmX9 hown hK hP hD hS 0 rfl rfl 1 (by decide) (hts (.fieldLink RX9 13 "ScissorsTable$Tape" "length" "I") (by decide +kernel)) (fun _ h9 => h9) rfl (by decide +kernel) rfl rfl (Nat.le_of_ble_eq_true rfl) dX9_take_47 (fun H locs hP hD hS => ?_)
        have hP : va_P (dC, dI) vwCl [(xTape, .inr (9, [.ref tB, .int (nI (((n + 1) + 1) + 1))])), (tB, .inl (cB, 600, (.inl fb_83)))] H := hP
        have hD : va_D A [(xTape, .inr (9, [.ref tB, .int (nI (((n + 1) + 1) + 1))])), (tB, .inl (cB, 600, (.inl fb_83)))] := hD
        refine lv_iinc (v := 0) (lv' := [(2, .int 0), (3, .int x_74), (0, .ref xTape), (1, .int p0)]) hx hb dX9_take_50 hl (k := 1) rfl (by decide) (by decide) rfl (fun ls hl => ?_)
        refine lv_goto (tgt := 3) hx hb dX9_take_53 (by decide) ?_
        refine lv_iload_n hx hb dX9_take_3 rfl (lv_at hl 0 rfl) ?_
        refine lv_if_lt (tgt := 56) hx hb dX9_take_4 (by decide) (fun c => absurd c (by decide)) (fun _ => ?_)
        refine lv_iload_n hx hb dX9_take_7 rfl (lv_at hl 3 rfl) ?_
        refine lv_iload_n hx hb dX9_take_8 rfl (lv_at hl 0 rfl) ?_
        refine lv_ishr hx hb dX9_take_9 ?_
        refine lv_topi (fun x_85 ex_85 => ?_)
        refine lv_sipush (v := 255) hx hb dX9_take_10 (by decide) ?_
        refine lv_iand hx hb dX9_take_13 ?_
        refine lv_topi (fun x_86 ex_86 => ?_)
        refine lv_istore_n (lv' := [(3, .int x_86), (2, .int 0), (0, .ref xTape), (1, .int p0)]) hx hb dX9_take_14 rfl hl (by decide) rfl (fun ls hl => ?_)
        refine lv_iload_n hx hb dX9_take_15 rfl (lv_at hl 0 rfl) ?_
        refine lv_if_eq (tgt := 50) hx hb dX9_take_16 (by decide) (fun c_87 => ?_) (fun c_87 => ?_)
        · refine lv_iinc (v := (-8)) (lv' := [(2, .int (-8)), (3, .int x_86), (0, .ref xTape), (1, .int p0)]) hx hb dX9_take_50 hl (k := 1) rfl (by decide) (by decide) rfl (fun ls hl => ?_)
          refine lv_goto (tgt := 3) hx hb dX9_take_53 (by decide) ?_
          refine lv_iload_n hx hb dX9_take_3 rfl (lv_at hl 0 rfl) ?_
          refine lv_if_lt (tgt := 56) hx hb dX9_take_4 (by decide) (fun _ => ?_) (fun c => absurd (by decide) c)
          have h24 : sp_by p0 24 = 1 := if_neg (by rw [← ex_1, ← ex_2]; exact c_3)
          have h16 : sp_by p0 16 = 1 := if_neg (by rw [← ex_49, ← ex_50]; exact c_51)
          have h8 : sp_by p0 8 = 1 := if_neg (by rw [← ex_73, ← ex_74]; exact c_75)
          have h0 : sp_by p0 0 = 0 := if_pos (by rw [← ex_85, ← ex_86]; exact c_87)
          have hc : sp_cnt p0 = 3 := by unfold sp_cnt; rw [h24, h16, h8, h0]
          have hP9 := hP.sub (ws' := [(xTape, .inr (9, [.ref tB, .int (nI (n + 3))])), (tB, .inl (cB, 600, (.inl fb_83)))]) [0, 1] rfl
          have hD9 := hD.sub (ws' := [(xTape, .inr (9, [.ref tB, .int (nI (n + 3))])), (tB, .inl (cB, 600, (.inl fb_83)))]) [0, 1] (by decide) rfl
          exact W.vret hx hb hr (fun t ht hW => ⟨⟨(), rfl, trivial, fb_83, by rw [ht, hc]; exact hP9, va_K.moved hW.alike hK, by rw [hc]; exact hD9⟩, hS.F ht⟩) hS.2.2 dX9_take_56
        · refine lv_aload_n hx hb dX9_take_19 rfl (lv_at hl 2 rfl) ?_
          refine va_get (D := (dC, dI)) (ci := 9) (v := .int (nI (((n + 1) + 1) + 1))) (C := RX9) (T := TX9) (N := 2) hx hb hts hiX9 hown hK hP 0 rfl rfl 1 (by decide) (hts (.fieldLink RX9 13 "ScissorsTable$Tape" "length" "I") (by decide +kernel)) (fun _ h9 => h9) rfl dX9_take_20 ?_
          refine lv_sipush (v := 600) hx hb dX9_take_23 (by decide) ?_
          refine lv_icmp_ge (tgt := 50) hx hb dX9_take_26 (by decide) (fun c => absurd c (nI_ge (a := (((n + 1) + 1) + 1)) (b := 600) (by omega) (by decide))) (fun _ => ?_)
          refine lv_aload_n hx hb dX9_take_29 rfl (lv_at hl 2 rfl) ?_
          refine va_get (D := (dC, dI)) (ci := 9) (v := .ref tB) (C := RX9) (T := TX9) (N := 2) hx hb hts hiX9 hown hK hP 0 rfl rfl 0 (by decide) (hts (.fieldLink RX9 9 "ScissorsTable$Tape" "bytes" "[B") (by decide +kernel)) (fun _ h9 => h9) rfl dX9_take_30 ?_
          refine lv_aload_n hx hb dX9_take_33 rfl (lv_at hl 2 rfl) ?_
          refine va_get (D := (dC, dI)) (ci := 9) (v := .int (nI (((n + 1) + 1) + 1))) (C := RX9) (T := TX9) (N := 2) hx hb hts hiX9 hown hK hP 0 rfl rfl 1 (by decide) (hts (.fieldLink RX9 13 "ScissorsTable$Tape" "length" "I") (by decide +kernel)) (fun _ h9 => h9) rfl dX9_take_34 ?_
          refine lv_iload_n hx hb dX9_take_37 rfl (lv_at hl 0 rfl) ?_
          refine lv_i2b hx hb dX9_take_38 rfl ?_
          refine lv_topi (fun x_88 ex_88 => ?_)
          refine va_bast hx hb hK hP hD hS 1 0 rfl rfl (vp_in_nI (by omega) (by decide)) dX9_take_39 (fun H locs hP hD hS => ?_)
          generalize upd fb_83 (nI (((n + 1) + 1) + 1)).toNatClampNeg (vp_nar .byte x_88) = fb_89 at hP hD
          have hP : va_P (dC, dI) vwCl [(xTape, .inr (9, [.ref tB, .int (nI (((n + 1) + 1) + 1))])), (tB, .inl (cB, 600, (.inl fb_89)))] H := hP
          have hD : va_D A [(xTape, .inr (9, [.ref tB, .int (nI (((n + 1) + 1) + 1))])), (tB, .inl (cB, 600, (.inl fb_89)))] := hD
          refine lv_aload_n hx hb dX9_take_40 rfl (lv_at hl 2 rfl) ?_
          refine lv_dup hx hb dX9_take_41 rfl ?_
          refine va_get (D := (dC, dI)) (ci := 9) (v := .int (nI (((n + 1) + 1) + 1))) (C := RX9) (T := TX9) (N := 2) hx hb hts hiX9 hown hK hP 0 rfl rfl 1 (by decide) (hts (.fieldLink RX9 13 "ScissorsTable$Tape" "length" "I") (by decide +kernel)) (fun _ h9 => h9) rfl dX9_take_42 ?_
          refine lv_iconst (v := 1) hx hb dX9_take_45 (by decide) ?_
          refine lv_iadd hx hb dX9_take_46 ?_
          refine lv_topi (fun x_90 ex_90 => ?_)
          obtain rfl : x_90 = nI ((((n + 1) + 1) + 1) + 1) := ex_90.trans (nI_add ((((n + 1) + 1) + 1)) 1)
          refine va_put (D := (dC, dI)) (ci := 9) (v := .int (nI ((((n + 1) + 1) + 1) + 1))) (ty := .int) (C := RX9) (T := TX9) (N := 2) hx hb hts hiX9 tyX9 tyX9_ok nmX9 hown hK hP hD hS 0 rfl rfl 1 (by decide) (hts (.fieldLink RX9 13 "ScissorsTable$Tape" "length" "I") (by decide +kernel)) (fun _ h9 => h9) rfl (by decide +kernel) rfl rfl (Nat.le_of_ble_eq_true rfl) dX9_take_47 (fun H locs hP hD hS => ?_)
          have hP : va_P (dC, dI) vwCl [(xTape, .inr (9, [.ref tB, .int (nI ((((n + 1) + 1) + 1) + 1))])), (tB, .inl (cB, 600, (.inl fb_89)))] H := hP
          have hD : va_D A [(xTape, .inr (9, [.ref tB, .int (nI ((((n + 1) + 1) + 1) + 1))])), (tB, .inl (cB, 600, (.inl fb_89)))] := hD
          refine lv_iinc (v := (-8)) (lv' := [(2, .int (-8)), (3, .int x_86), (0, .ref xTape), (1, .int p0)]) hx hb dX9_take_50 hl (k := 1) rfl (by decide) (by decide) rfl (fun ls hl => ?_)
          refine lv_goto (tgt := 3) hx hb dX9_take_53 (by decide) ?_
          refine lv_iload_n hx hb dX9_take_3 rfl (lv_at hl 0 rfl) ?_
          refine lv_if_lt (tgt := 56) hx hb dX9_take_4 (by decide) (fun _ => ?_) (fun c => absurd (by decide) c)
          have h24 : sp_by p0 24 = 1 := if_neg (by rw [← ex_1, ← ex_2]; exact c_3)
          have h16 : sp_by p0 16 = 1 := if_neg (by rw [← ex_49, ← ex_50]; exact c_51)
          have h8 : sp_by p0 8 = 1 := if_neg (by rw [← ex_73, ← ex_74]; exact c_75)
          have h0 : sp_by p0 0 = 1 := if_neg (by rw [← ex_85, ← ex_86]; exact c_87)
          have hc : sp_cnt p0 = 4 := by unfold sp_cnt; rw [h24, h16, h8, h0]
          have hP9 := hP.sub (ws' := [(xTape, .inr (9, [.ref tB, .int (nI (n + 4))])), (tB, .inl (cB, 600, (.inl fb_89)))]) [0, 1] rfl
          have hD9 := hD.sub (ws' := [(xTape, .inr (9, [.ref tB, .int (nI (n + 4))])), (tB, .inl (cB, 600, (.inl fb_89)))]) [0, 1] (by decide) rfl
          exact W.vret hx hb hr (fun t ht hW => ⟨⟨(), rfl, trivial, fb_89, by rw [ht, hc]; exact hP9, va_K.moved hW.alike hK, by rw [hc]; exact hD9⟩, hS.F ht⟩) hS.2.2 dX9_take_56
set_option maxHeartbeats 4000000 in
set_option maxRecDepth 100000 in
theorem c_X11_brings (l : Launch) (dC : Nat → ClassId) (dI : Nat → Nat → Nat) (cB cI cJ : ClassId) (sz : Nat) (m0 m_tape m_read m_tets m_primes m_often m_normal m_termM m_termP m_termV m_sumFrom m_sumMany m_part m_fair m_heap m_pickTet m_pickEdge m_base m_baseM m_baseP m_rowsOf m_grid m_times m_boxes m_cameFrom m_cameBy m_steps m_sides m_next m_cube m_ways : Nat) (p0 : Int32) (n : Nat) (fb : Nat → Int32) (hn : n ≤ 596) : Met l yX11_brings wsX11_brings ({ frames := 1, cells := 0, slots := 0, locals := 24 }) (va_Pc [.ref m0, .int p0] (fun U => U.heap.size = sz ∧ va_P (dC, dI) vwCl [(m0, .inr (11, [.int 0, .ref m_tape, .int (nI n), .int 0, .int 0, .ref m_read, .int 0, .int 0, .int 0, .ref m_tets, .int 0, .int 0, .int 0, .int 0, .int 0, .int 0, .int 0, .int 0, .ref m_primes, .ref m_often, .ref m_normal, .ref m_termM, .ref m_termP, .ref m_termV, .ref m_sumFrom, .ref m_sumMany, .int 0, .int 0, .int 0, .int 0, .ref m_part, .ref m_fair, .ref m_heap, .ref m_pickTet, .ref m_pickEdge, .ref m_base, .ref m_baseM, .ref m_baseP, .ref m_rowsOf, .int 0, .ref m_grid, .ref m_times, .ref m_boxes, .ref m_cameFrom, .ref m_cameBy, .ref m_steps, .ref m_sides, .int 0, .int (-1), .ref m_next, .ref m_cube, .ref m_ways])), (m_tape, .inl (cB, 600, (.inl fb)))] U.heap ∧ va_K (dC, dI) vwCl [(cB, .byte), (cI, .int), (cJ, .long)] U ∧ va_D (fun _ => True) [(m0, .inr (11, [.int 0, .ref m_tape, .int (nI n), .int 0, .int 0, .ref m_read, .int 0, .int 0, .int 0, .ref m_tets, .int 0, .int 0, .int 0, .int 0, .int 0, .int 0, .int 0, .int 0, .ref m_primes, .ref m_often, .ref m_normal, .ref m_termM, .ref m_termP, .ref m_termV, .ref m_sumFrom, .ref m_sumMany, .int 0, .int 0, .int 0, .int 0, .ref m_part, .ref m_fair, .ref m_heap, .ref m_pickTet, .ref m_pickEdge, .ref m_base, .ref m_baseM, .ref m_baseP, .ref m_rowsOf, .int 0, .ref m_grid, .ref m_times, .ref m_boxes, .ref m_cameFrom, .ref m_cameBy, .ref m_steps, .ref m_sides, .int 0, .int (-1), .ref m_next, .ref m_cube, .ref m_ways])), (m_tape, .inl (cB, 600, (.inl fb)))])) (va_Qv (fun _ : Unit => True) (fun _ t => ∃ fz : Nat → Int32, va_P (dC, dI) vwCl [(m0, .inr (11, [.int 0, .ref m_tape, .int (nI (n + sp_cnt p0)), .int 0, .int 0, .ref m_read, .int 0, .int 0, .int 0, .ref m_tets, .int 0, .int 0, .int 0, .int 0, .int 0, .int 0, .int 0, .int 0, .ref m_primes, .ref m_often, .ref m_normal, .ref m_termM, .ref m_termP, .ref m_termV, .ref m_sumFrom, .ref m_sumMany, .int 0, .int 0, .int 0, .int 0, .ref m_part, .ref m_fair, .ref m_heap, .ref m_pickTet, .ref m_pickEdge, .ref m_base, .ref m_baseM, .ref m_baseP, .ref m_rowsOf, .int 0, .ref m_grid, .ref m_times, .ref m_boxes, .ref m_cameFrom, .ref m_cameBy, .ref m_steps, .ref m_sides, .int 0, .int (-1), .ref m_next, .ref m_cube, .ref m_ways])), (m_tape, .inl (cB, 600, (.inl fz)))] t.heap ∧ va_K (dC, dI) vwCl [(cB, .byte), (cI, .int), (cJ, .long)] t ∧ va_D (va_A [(m0, .inr (11, [.int 0, .ref m_tape, .int (nI n), .int 0, .int 0, .ref m_read, .int 0, .int 0, .int 0, .ref m_tets, .int 0, .int 0, .int 0, .int 0, .int 0, .int 0, .int 0, .int 0, .ref m_primes, .ref m_often, .ref m_normal, .ref m_termM, .ref m_termP, .ref m_termV, .ref m_sumFrom, .ref m_sumMany, .int 0, .int 0, .int 0, .int 0, .ref m_part, .ref m_fair, .ref m_heap, .ref m_pickTet, .ref m_pickEdge, .ref m_base, .ref m_baseM, .ref m_baseP, .ref m_rowsOf, .int 0, .ref m_grid, .ref m_times, .ref m_boxes, .ref m_cameFrom, .ref m_cameBy, .ref m_steps, .ref m_sides, .int 0, .int (-1), .ref m_next, .ref m_cube, .ref m_ways])), (m_tape, .inl (cB, 600, (.inl fb)))] sz) [(m0, .inr (11, [.int 0, .ref m_tape, .int (nI (n + sp_cnt p0)), .int 0, .int 0, .ref m_read, .int 0, .int 0, .int 0, .ref m_tets, .int 0, .int 0, .int 0, .int 0, .int 0, .int 0, .int 0, .int 0, .ref m_primes, .ref m_often, .ref m_normal, .ref m_termM, .ref m_termP, .ref m_termV, .ref m_sumFrom, .ref m_sumMany, .int 0, .int 0, .int 0, .int 0, .ref m_part, .ref m_fair, .ref m_heap, .ref m_pickTet, .ref m_pickEdge, .ref m_base, .ref m_baseM, .ref m_baseP, .ref m_rowsOf, .int 0, .ref m_grid, .ref m_times, .ref m_boxes, .ref m_cameFrom, .ref m_cameBy, .ref m_steps, .ref m_sides, .int 0, .int (-1), .ref m_next, .ref m_cube, .ref m_ways])), (m_tape, .inl (cB, 600, (.inl fz)))]) (va_A [(m0, .inr (11, [.int 0, .ref m_tape, .int (nI n), .int 0, .int 0, .ref m_read, .int 0, .int 0, .int 0, .ref m_tets, .int 0, .int 0, .int 0, .int 0, .int 0, .int 0, .int 0, .int 0, .ref m_primes, .ref m_often, .ref m_normal, .ref m_termM, .ref m_termP, .ref m_termV, .ref m_sumFrom, .ref m_sumMany, .int 0, .int 0, .int 0, .int 0, .ref m_part, .ref m_fair, .ref m_heap, .ref m_pickTet, .ref m_pickEdge, .ref m_base, .ref m_baseM, .ref m_baseP, .ref m_rowsOf, .int 0, .ref m_grid, .ref m_times, .ref m_boxes, .ref m_cameFrom, .ref m_cameBy, .ref m_steps, .ref m_sides, .int 0, .int (-1), .ref m_next, .ref m_cube, .ref m_ways])), (m_tape, .inl (cB, 600, (.inl fb)))] sz)) 0 0 (va_A [(m0, .inr (11, [.int 0, .ref m_tape, .int (nI n), .int 0, .int 0, .ref m_read, .int 0, .int 0, .int 0, .ref m_tets, .int 0, .int 0, .int 0, .int 0, .int 0, .int 0, .int 0, .int 0, .ref m_primes, .ref m_often, .ref m_normal, .ref m_termM, .ref m_termP, .ref m_termV, .ref m_sumFrom, .ref m_sumMany, .int 0, .int 0, .int 0, .int 0, .ref m_part, .ref m_fair, .ref m_heap, .ref m_pickTet, .ref m_pickEdge, .ref m_base, .ref m_baseM, .ref m_baseP, .ref m_rowsOf, .int 0, .ref m_grid, .ref m_times, .ref m_boxes, .ref m_cameFrom, .ref m_cameBy, .ref m_steps, .ref m_sides, .int 0, .int (-1), .ref m_next, .ref m_cube, .ref m_ways])), (m_tape, .inl (cB, 600, (.inl fb)))] sz) := by
  refine Met.ofW (cc := cX11_brings) (maxL := 4) (ret := none) (by decide) rfl ?_
  intro p e s m args below meth c s₁ B hml hv
  obtain ⟨rfl, hsz, hP, hK, hD0⟩ := hv
  have hx := B.exec
  have hb := B.bytes
  have hr := B.returns
  have hts := atoms_spec (ws := wsX11_brings) B.pre
  have hown : s.vm.findClass RX11 = some m.cls := findClass_of_methodNamed B.named
  have hlocks := B.notSynchronized
  have hiX11 : ∀ w ∈ u_ws RX11 TX11 52, w ∈ wsX11_brings := by decide +kernel
  subst hsz
  have hD := hD0.self (sz := s.heap.size)
  generalize hAe : va_A [(m0, .inr (11, [.int 0, .ref m_tape, .int (nI n), .int 0, .int 0, .ref m_read, .int 0, .int 0, .int 0, .ref m_tets, .int 0, .int 0, .int 0, .int 0, .int 0, .int 0, .int 0, .int 0, .ref m_primes, .ref m_often, .ref m_normal, .ref m_termM, .ref m_termP, .ref m_termV, .ref m_sumFrom, .ref m_sumMany, .int 0, .int 0, .int 0, .int 0, .ref m_part, .ref m_fair, .ref m_heap, .ref m_pickTet, .ref m_pickEdge, .ref m_base, .ref m_baseM, .ref m_baseP, .ref m_rowsOf, .int 0, .ref m_grid, .ref m_times, .ref m_boxes, .ref m_cameFrom, .ref m_cameBy, .ref m_steps, .ref m_sides, .int 0, .int (-1), .ref m_next, .ref m_cube, .ref m_ways])), (m_tape, .inl (cB, 600, (.inl fb)))] s.heap.size = A at hD ⊢
  have hA : ∀ q : Nat, s.heap.size ≤ q → A q := fun q h => by rw [← hAe]; exact Or.inr h
  have hS : va_S A s.heap s.heap [] := va_S.rf
  have hP : va_P (dC, dI) vwCl [(m0, .inr (11, [.int 0, .ref m_tape, .int (nI n), .int 0, .int 0, .ref m_read, .int 0, .int 0, .int 0, .ref m_tets, .int 0, .int 0, .int 0, .int 0, .int 0, .int 0, .int 0, .int 0, .ref m_primes, .ref m_often, .ref m_normal, .ref m_termM, .ref m_termP, .ref m_termV, .ref m_sumFrom, .ref m_sumMany, .int 0, .int 0, .int 0, .int 0, .ref m_part, .ref m_fair, .ref m_heap, .ref m_pickTet, .ref m_pickEdge, .ref m_base, .ref m_baseM, .ref m_baseP, .ref m_rowsOf, .int 0, .ref m_grid, .ref m_times, .ref m_boxes, .ref m_cameFrom, .ref m_cameBy, .ref m_steps, .ref m_sides, .int 0, .int (-1), .ref m_next, .ref m_cube, .ref m_ways])), (m_tape, .inl (cB, 600, (.inl fb)))] s.heap := hP
  have hl := lv_entry ([.ref m0, .int p0]) (n := 4) (Nat.le_of_ble_eq_true rfl)
  rw [lg_entry_eq]
  generalize (lg_sl ([.ref m0, .int p0]) ++ List.replicate (4 - (lg_sl ([.ref m0, .int p0])).length) Slot.unset).toArray = ls at hl ⊢
  have hl : lv_has ls 4 [(0, .ref m0), (1, .int p0)] := hl
  refine lv_bipush (v := 24) hx hb dX11_brings_0 (by decide) ?_
  refine lv_istore_n (lv' := [(2, .int 24), (0, .ref m0), (1, .int p0)]) hx hb dX11_brings_2 rfl hl (by decide) rfl (fun ls hl => ?_)
  refine lv_iload_n hx hb dX11_brings_3 rfl (lv_at hl 0 rfl) ?_
  refine lv_if_lt (tgt := 49) hx hb dX11_brings_4 (by decide) (fun c => absurd c (by decide)) (fun _ => ?_)
  refine lv_iload_n hx hb dX11_brings_7 rfl (lv_at hl 2 rfl) ?_
  refine lv_iload_n hx hb dX11_brings_8 rfl (lv_at hl 0 rfl) ?_
  refine lv_ishr hx hb dX11_brings_9 ?_
  refine lv_topi (fun x_1 ex_1 => ?_)
  refine lv_sipush (v := 255) hx hb dX11_brings_10 (by decide) ?_
  refine lv_iand hx hb dX11_brings_13 ?_
  refine lv_topi (fun x_2 ex_2 => ?_)
  refine lv_istore_n (lv' := [(3, .int x_2), (2, .int 24), (0, .ref m0), (1, .int p0)]) hx hb dX11_brings_14 rfl hl (by decide) rfl (fun ls hl => ?_)
  refine lv_iload_n hx hb dX11_brings_15 rfl (lv_at hl 0 rfl) ?_
  refine lv_if_ne (tgt := 22) hx hb dX11_brings_16 (by decide) (fun c_3 => ?_) (fun c_3 => ?_)
  · refine lv_aload_n hx hb dX11_brings_22 rfl (lv_at hl 2 rfl) ?_
    refine va_get (D := (dC, dI)) (ci := 11) (v := .ref m_tape) (C := RX11) (T := TX11) (N := 52) hx hb hts hiX11 hown hK hP 0 rfl rfl 1 (by decide) (hts (.fieldLink RX11 9 "ScissorsTableModel" "tape" "[B") (by decide +kernel)) (fun _ h9 => h9) rfl dX11_brings_23 ?_
    refine lv_aload_n hx hb dX11_brings_26 rfl (lv_at hl 2 rfl) ?_
    refine va_get (D := (dC, dI)) (ci := 11) (v := .int (nI n)) (C := RX11) (T := TX11) (N := 52) hx hb hts hiX11 hown hK hP 0 rfl rfl 2 (by decide) (hts (.fieldLink RX11 109 "ScissorsTableModel" "length" "I") (by decide +kernel)) (fun _ h9 => h9) rfl dX11_brings_27 ?_
    refine lv_iload_n hx hb dX11_brings_30 rfl (lv_at hl 0 rfl) ?_
    refine lv_i2b hx hb dX11_brings_31 rfl ?_
    refine lv_topi (fun x_4 ex_4 => ?_)
    refine va_bast hx hb hK hP hD hS 1 0 rfl rfl (vp_in_nI (by omega) (by decide)) dX11_brings_32 (fun H locs hP hD hS => ?_)
    generalize upd fb (nI n).toNatClampNeg (vp_nar .byte x_4) = fb_5 at hP hD
    have hP : va_P (dC, dI) vwCl [(m0, .inr (11, [.int 0, .ref m_tape, .int (nI n), .int 0, .int 0, .ref m_read, .int 0, .int 0, .int 0, .ref m_tets, .int 0, .int 0, .int 0, .int 0, .int 0, .int 0, .int 0, .int 0, .ref m_primes, .ref m_often, .ref m_normal, .ref m_termM, .ref m_termP, .ref m_termV, .ref m_sumFrom, .ref m_sumMany, .int 0, .int 0, .int 0, .int 0, .ref m_part, .ref m_fair, .ref m_heap, .ref m_pickTet, .ref m_pickEdge, .ref m_base, .ref m_baseM, .ref m_baseP, .ref m_rowsOf, .int 0, .ref m_grid, .ref m_times, .ref m_boxes, .ref m_cameFrom, .ref m_cameBy, .ref m_steps, .ref m_sides, .int 0, .int (-1), .ref m_next, .ref m_cube, .ref m_ways])), (m_tape, .inl (cB, 600, (.inl fb_5)))] H := hP
    have hD : va_D A [(m0, .inr (11, [.int 0, .ref m_tape, .int (nI n), .int 0, .int 0, .ref m_read, .int 0, .int 0, .int 0, .ref m_tets, .int 0, .int 0, .int 0, .int 0, .int 0, .int 0, .int 0, .int 0, .ref m_primes, .ref m_often, .ref m_normal, .ref m_termM, .ref m_termP, .ref m_termV, .ref m_sumFrom, .ref m_sumMany, .int 0, .int 0, .int 0, .int 0, .ref m_part, .ref m_fair, .ref m_heap, .ref m_pickTet, .ref m_pickEdge, .ref m_base, .ref m_baseM, .ref m_baseP, .ref m_rowsOf, .int 0, .ref m_grid, .ref m_times, .ref m_boxes, .ref m_cameFrom, .ref m_cameBy, .ref m_steps, .ref m_sides, .int 0, .int (-1), .ref m_next, .ref m_cube, .ref m_ways])), (m_tape, .inl (cB, 600, (.inl fb_5)))] := hD
    refine lv_aload_n hx hb dX11_brings_33 rfl (lv_at hl 2 rfl) ?_
    refine lv_dup hx hb dX11_brings_34 rfl ?_
    refine va_get (D := (dC, dI)) (ci := 11) (v := .int (nI n)) (C := RX11) (T := TX11) (N := 52) hx hb hts hiX11 hown hK hP 0 rfl rfl 2 (by decide) (hts (.fieldLink RX11 109 "ScissorsTableModel" "length" "I") (by decide +kernel)) (fun _ h9 => h9) rfl dX11_brings_35 ?_
    refine lv_iconst (v := 1) hx hb dX11_brings_38 (by decide) ?_
    refine lv_iadd hx hb dX11_brings_39 ?_
    refine lv_topi (fun x_6 ex_6 => ?_)
    obtain rfl : x_6 = nI (n + 1) := ex_6.trans (nI_add n 1)
    refine va_put (D := (dC, dI)) (ci := 11) (v := .int (nI (n + 1))) (ty := .int) (C := RX11) (T := TX11) (N := 52) hx hb hts hiX11 tyX11 tyX11_ok nmX11 hown hK hP hD hS 0 rfl rfl 2 (by decide) (hts (.fieldLink RX11 109 "ScissorsTableModel" "length" "I") (by decide +kernel)) (fun _ h9 => h9) rfl (by decide +kernel) rfl rfl (Nat.le_of_ble_eq_true rfl) dX11_brings_40 (fun H locs hP hD hS => ?_)
    have hP : va_P (dC, dI) vwCl [(m0, .inr (11, [.int 0, .ref m_tape, .int (nI (n + 1)), .int 0, .int 0, .ref m_read, .int 0, .int 0, .int 0, .ref m_tets, .int 0, .int 0, .int 0, .int 0, .int 0, .int 0, .int 0, .int 0, .ref m_primes, .ref m_often, .ref m_normal, .ref m_termM, .ref m_termP, .ref m_termV, .ref m_sumFrom, .ref m_sumMany, .int 0, .int 0, .int 0, .int 0, .ref m_part, .ref m_fair, .ref m_heap, .ref m_pickTet, .ref m_pickEdge, .ref m_base, .ref m_baseM, .ref m_baseP, .ref m_rowsOf, .int 0, .ref m_grid, .ref m_times, .ref m_boxes, .ref m_cameFrom, .ref m_cameBy, .ref m_steps, .ref m_sides, .int 0, .int (-1), .ref m_next, .ref m_cube, .ref m_ways])), (m_tape, .inl (cB, 600, (.inl fb_5)))] H := hP
    have hD : va_D A [(m0, .inr (11, [.int 0, .ref m_tape, .int (nI (n + 1)), .int 0, .int 0, .ref m_read, .int 0, .int 0, .int 0, .ref m_tets, .int 0, .int 0, .int 0, .int 0, .int 0, .int 0, .int 0, .int 0, .ref m_primes, .ref m_often, .ref m_normal, .ref m_termM, .ref m_termP, .ref m_termV, .ref m_sumFrom, .ref m_sumMany, .int 0, .int 0, .int 0, .int 0, .ref m_part, .ref m_fair, .ref m_heap, .ref m_pickTet, .ref m_pickEdge, .ref m_base, .ref m_baseM, .ref m_baseP, .ref m_rowsOf, .int 0, .ref m_grid, .ref m_times, .ref m_boxes, .ref m_cameFrom, .ref m_cameBy, .ref m_steps, .ref m_sides, .int 0, .int (-1), .ref m_next, .ref m_cube, .ref m_ways])), (m_tape, .inl (cB, 600, (.inl fb_5)))] := hD
    refine lv_iinc (v := 16) (lv' := [(2, .int 16), (3, .int x_2), (0, .ref m0), (1, .int p0)]) hx hb dX11_brings_43 hl (k := 1) rfl (by decide) (by decide) rfl (fun ls hl => ?_)
    refine lv_goto (tgt := 3) hx hb dX11_brings_46 (by decide) ?_
    refine lv_iload_n hx hb dX11_brings_3 rfl (lv_at hl 0 rfl) ?_
    refine lv_if_lt (tgt := 49) hx hb dX11_brings_4 (by decide) (fun c => absurd c (by decide)) (fun _ => ?_)
    refine lv_iload_n hx hb dX11_brings_7 rfl (lv_at hl 3 rfl) ?_
    refine lv_iload_n hx hb dX11_brings_8 rfl (lv_at hl 0 rfl) ?_
    refine lv_ishr hx hb dX11_brings_9 ?_
    refine lv_topi (fun x_7 ex_7 => ?_)
    refine lv_sipush (v := 255) hx hb dX11_brings_10 (by decide) ?_
    refine lv_iand hx hb dX11_brings_13 ?_
    refine lv_topi (fun x_8 ex_8 => ?_)
    refine lv_istore_n (lv' := [(3, .int x_8), (2, .int 16), (0, .ref m0), (1, .int p0)]) hx hb dX11_brings_14 rfl hl (by decide) rfl (fun ls hl => ?_)
    refine lv_iload_n hx hb dX11_brings_15 rfl (lv_at hl 0 rfl) ?_
    refine lv_if_ne (tgt := 22) hx hb dX11_brings_16 (by decide) (fun c_9 => ?_) (fun c_9 => ?_)
    · refine lv_aload_n hx hb dX11_brings_22 rfl (lv_at hl 2 rfl) ?_
      refine va_get (D := (dC, dI)) (ci := 11) (v := .ref m_tape) (C := RX11) (T := TX11) (N := 52) hx hb hts hiX11 hown hK hP 0 rfl rfl 1 (by decide) (hts (.fieldLink RX11 9 "ScissorsTableModel" "tape" "[B") (by decide +kernel)) (fun _ h9 => h9) rfl dX11_brings_23 ?_
      refine lv_aload_n hx hb dX11_brings_26 rfl (lv_at hl 2 rfl) ?_
      refine va_get (D := (dC, dI)) (ci := 11) (v := .int (nI (n + 1))) (C := RX11) (T := TX11) (N := 52) hx hb hts hiX11 hown hK hP 0 rfl rfl 2 (by decide) (hts (.fieldLink RX11 109 "ScissorsTableModel" "length" "I") (by decide +kernel)) (fun _ h9 => h9) rfl dX11_brings_27 ?_
      refine lv_iload_n hx hb dX11_brings_30 rfl (lv_at hl 0 rfl) ?_
      refine lv_i2b hx hb dX11_brings_31 rfl ?_
      refine lv_topi (fun x_10 ex_10 => ?_)
      refine va_bast hx hb hK hP hD hS 1 0 rfl rfl (vp_in_nI (by omega) (by decide)) dX11_brings_32 (fun H locs hP hD hS => ?_)
      generalize upd fb_5 (nI (n + 1)).toNatClampNeg (vp_nar .byte x_10) = fb_11 at hP hD
      have hP : va_P (dC, dI) vwCl [(m0, .inr (11, [.int 0, .ref m_tape, .int (nI (n + 1)), .int 0, .int 0, .ref m_read, .int 0, .int 0, .int 0, .ref m_tets, .int 0, .int 0, .int 0, .int 0, .int 0, .int 0, .int 0, .int 0, .ref m_primes, .ref m_often, .ref m_normal, .ref m_termM, .ref m_termP, .ref m_termV, .ref m_sumFrom, .ref m_sumMany, .int 0, .int 0, .int 0, .int 0, .ref m_part, .ref m_fair, .ref m_heap, .ref m_pickTet, .ref m_pickEdge, .ref m_base, .ref m_baseM, .ref m_baseP, .ref m_rowsOf, .int 0, .ref m_grid, .ref m_times, .ref m_boxes, .ref m_cameFrom, .ref m_cameBy, .ref m_steps, .ref m_sides, .int 0, .int (-1), .ref m_next, .ref m_cube, .ref m_ways])), (m_tape, .inl (cB, 600, (.inl fb_11)))] H := hP
      have hD : va_D A [(m0, .inr (11, [.int 0, .ref m_tape, .int (nI (n + 1)), .int 0, .int 0, .ref m_read, .int 0, .int 0, .int 0, .ref m_tets, .int 0, .int 0, .int 0, .int 0, .int 0, .int 0, .int 0, .int 0, .ref m_primes, .ref m_often, .ref m_normal, .ref m_termM, .ref m_termP, .ref m_termV, .ref m_sumFrom, .ref m_sumMany, .int 0, .int 0, .int 0, .int 0, .ref m_part, .ref m_fair, .ref m_heap, .ref m_pickTet, .ref m_pickEdge, .ref m_base, .ref m_baseM, .ref m_baseP, .ref m_rowsOf, .int 0, .ref m_grid, .ref m_times, .ref m_boxes, .ref m_cameFrom, .ref m_cameBy, .ref m_steps, .ref m_sides, .int 0, .int (-1), .ref m_next, .ref m_cube, .ref m_ways])), (m_tape, .inl (cB, 600, (.inl fb_11)))] := hD
      refine lv_aload_n hx hb dX11_brings_33 rfl (lv_at hl 2 rfl) ?_
      refine lv_dup hx hb dX11_brings_34 rfl ?_
      refine va_get (D := (dC, dI)) (ci := 11) (v := .int (nI (n + 1))) (C := RX11) (T := TX11) (N := 52) hx hb hts hiX11 hown hK hP 0 rfl rfl 2 (by decide) (hts (.fieldLink RX11 109 "ScissorsTableModel" "length" "I") (by decide +kernel)) (fun _ h9 => h9) rfl dX11_brings_35 ?_
      refine lv_iconst (v := 1) hx hb dX11_brings_38 (by decide) ?_
      refine lv_iadd hx hb dX11_brings_39 ?_
      refine lv_topi (fun x_12 ex_12 => ?_)
      obtain rfl : x_12 = nI ((n + 1) + 1) := ex_12.trans (nI_add ((n + 1)) 1)
      refine va_put (D := (dC, dI)) (ci := 11) (v := .int (nI ((n + 1) + 1))) (ty := .int) (C := RX11) (T := TX11) (N := 52) hx hb hts hiX11 tyX11 tyX11_ok nmX11 hown hK hP hD hS 0 rfl rfl 2 (by decide) (hts (.fieldLink RX11 109 "ScissorsTableModel" "length" "I") (by decide +kernel)) (fun _ h9 => h9) rfl (by decide +kernel) rfl rfl (Nat.le_of_ble_eq_true rfl) dX11_brings_40 (fun H locs hP hD hS => ?_)
      have hP : va_P (dC, dI) vwCl [(m0, .inr (11, [.int 0, .ref m_tape, .int (nI ((n + 1) + 1)), .int 0, .int 0, .ref m_read, .int 0, .int 0, .int 0, .ref m_tets, .int 0, .int 0, .int 0, .int 0, .int 0, .int 0, .int 0, .int 0, .ref m_primes, .ref m_often, .ref m_normal, .ref m_termM, .ref m_termP, .ref m_termV, .ref m_sumFrom, .ref m_sumMany, .int 0, .int 0, .int 0, .int 0, .ref m_part, .ref m_fair, .ref m_heap, .ref m_pickTet, .ref m_pickEdge, .ref m_base, .ref m_baseM, .ref m_baseP, .ref m_rowsOf, .int 0, .ref m_grid, .ref m_times, .ref m_boxes, .ref m_cameFrom, .ref m_cameBy, .ref m_steps, .ref m_sides, .int 0, .int (-1), .ref m_next, .ref m_cube, .ref m_ways])), (m_tape, .inl (cB, 600, (.inl fb_11)))] H := hP
      have hD : va_D A [(m0, .inr (11, [.int 0, .ref m_tape, .int (nI ((n + 1) + 1)), .int 0, .int 0, .ref m_read, .int 0, .int 0, .int 0, .ref m_tets, .int 0, .int 0, .int 0, .int 0, .int 0, .int 0, .int 0, .int 0, .ref m_primes, .ref m_often, .ref m_normal, .ref m_termM, .ref m_termP, .ref m_termV, .ref m_sumFrom, .ref m_sumMany, .int 0, .int 0, .int 0, .int 0, .ref m_part, .ref m_fair, .ref m_heap, .ref m_pickTet, .ref m_pickEdge, .ref m_base, .ref m_baseM, .ref m_baseP, .ref m_rowsOf, .int 0, .ref m_grid, .ref m_times, .ref m_boxes, .ref m_cameFrom, .ref m_cameBy, .ref m_steps, .ref m_sides, .int 0, .int (-1), .ref m_next, .ref m_cube, .ref m_ways])), (m_tape, .inl (cB, 600, (.inl fb_11)))] := hD
      refine lv_iinc (v := 8) (lv' := [(2, .int 8), (3, .int x_8), (0, .ref m0), (1, .int p0)]) hx hb dX11_brings_43 hl (k := 1) rfl (by decide) (by decide) rfl (fun ls hl => ?_)
      refine lv_goto (tgt := 3) hx hb dX11_brings_46 (by decide) ?_
      refine lv_iload_n hx hb dX11_brings_3 rfl (lv_at hl 0 rfl) ?_
      refine lv_if_lt (tgt := 49) hx hb dX11_brings_4 (by decide) (fun c => absurd c (by decide)) (fun _ => ?_)
      refine lv_iload_n hx hb dX11_brings_7 rfl (lv_at hl 3 rfl) ?_
      refine lv_iload_n hx hb dX11_brings_8 rfl (lv_at hl 0 rfl) ?_
      refine lv_ishr hx hb dX11_brings_9 ?_
      refine lv_topi (fun x_13 ex_13 => ?_)
      refine lv_sipush (v := 255) hx hb dX11_brings_10 (by decide) ?_
      refine lv_iand hx hb dX11_brings_13 ?_
      refine lv_topi (fun x_14 ex_14 => ?_)
      refine lv_istore_n (lv' := [(3, .int x_14), (2, .int 8), (0, .ref m0), (1, .int p0)]) hx hb dX11_brings_14 rfl hl (by decide) rfl (fun ls hl => ?_)
      refine lv_iload_n hx hb dX11_brings_15 rfl (lv_at hl 0 rfl) ?_
      refine lv_if_ne (tgt := 22) hx hb dX11_brings_16 (by decide) (fun c_15 => ?_) (fun c_15 => ?_)
      · refine lv_aload_n hx hb dX11_brings_22 rfl (lv_at hl 2 rfl) ?_
        refine va_get (D := (dC, dI)) (ci := 11) (v := .ref m_tape) (C := RX11) (T := TX11) (N := 52) hx hb hts hiX11 hown hK hP 0 rfl rfl 1 (by decide) (hts (.fieldLink RX11 9 "ScissorsTableModel" "tape" "[B") (by decide +kernel)) (fun _ h9 => h9) rfl dX11_brings_23 ?_
        refine lv_aload_n hx hb dX11_brings_26 rfl (lv_at hl 2 rfl) ?_
        refine va_get (D := (dC, dI)) (ci := 11) (v := .int (nI ((n + 1) + 1))) (C := RX11) (T := TX11) (N := 52) hx hb hts hiX11 hown hK hP 0 rfl rfl 2 (by decide) (hts (.fieldLink RX11 109 "ScissorsTableModel" "length" "I") (by decide +kernel)) (fun _ h9 => h9) rfl dX11_brings_27 ?_
        refine lv_iload_n hx hb dX11_brings_30 rfl (lv_at hl 0 rfl) ?_
        refine lv_i2b hx hb dX11_brings_31 rfl ?_
        refine lv_topi (fun x_16 ex_16 => ?_)
        refine va_bast hx hb hK hP hD hS 1 0 rfl rfl (vp_in_nI (by omega) (by decide)) dX11_brings_32 (fun H locs hP hD hS => ?_)
        generalize upd fb_11 (nI ((n + 1) + 1)).toNatClampNeg (vp_nar .byte x_16) = fb_17 at hP hD
        have hP : va_P (dC, dI) vwCl [(m0, .inr (11, [.int 0, .ref m_tape, .int (nI ((n + 1) + 1)), .int 0, .int 0, .ref m_read, .int 0, .int 0, .int 0, .ref m_tets, .int 0, .int 0, .int 0, .int 0, .int 0, .int 0, .int 0, .int 0, .ref m_primes, .ref m_often, .ref m_normal, .ref m_termM, .ref m_termP, .ref m_termV, .ref m_sumFrom, .ref m_sumMany, .int 0, .int 0, .int 0, .int 0, .ref m_part, .ref m_fair, .ref m_heap, .ref m_pickTet, .ref m_pickEdge, .ref m_base, .ref m_baseM, .ref m_baseP, .ref m_rowsOf, .int 0, .ref m_grid, .ref m_times, .ref m_boxes, .ref m_cameFrom, .ref m_cameBy, .ref m_steps, .ref m_sides, .int 0, .int (-1), .ref m_next, .ref m_cube, .ref m_ways])), (m_tape, .inl (cB, 600, (.inl fb_17)))] H := hP
        have hD : va_D A [(m0, .inr (11, [.int 0, .ref m_tape, .int (nI ((n + 1) + 1)), .int 0, .int 0, .ref m_read, .int 0, .int 0, .int 0, .ref m_tets, .int 0, .int 0, .int 0, .int 0, .int 0, .int 0, .int 0, .int 0, .ref m_primes, .ref m_often, .ref m_normal, .ref m_termM, .ref m_termP, .ref m_termV, .ref m_sumFrom, .ref m_sumMany, .int 0, .int 0, .int 0, .int 0, .ref m_part, .ref m_fair, .ref m_heap, .ref m_pickTet, .ref m_pickEdge, .ref m_base, .ref m_baseM, .ref m_baseP, .ref m_rowsOf, .int 0, .ref m_grid, .ref m_times, .ref m_boxes, .ref m_cameFrom, .ref m_cameBy, .ref m_steps, .ref m_sides, .int 0, .int (-1), .ref m_next, .ref m_cube, .ref m_ways])), (m_tape, .inl (cB, 600, (.inl fb_17)))] := hD
        refine lv_aload_n hx hb dX11_brings_33 rfl (lv_at hl 2 rfl) ?_
        refine lv_dup hx hb dX11_brings_34 rfl ?_
        refine va_get (D := (dC, dI)) (ci := 11) (v := .int (nI ((n + 1) + 1))) (C := RX11) (T := TX11) (N := 52) hx hb hts hiX11 hown hK hP 0 rfl rfl 2 (by decide) (hts (.fieldLink RX11 109 "ScissorsTableModel" "length" "I") (by decide +kernel)) (fun _ h9 => h9) rfl dX11_brings_35 ?_
        refine lv_iconst (v := 1) hx hb dX11_brings_38 (by decide) ?_
        refine lv_iadd hx hb dX11_brings_39 ?_
        refine lv_topi (fun x_18 ex_18 => ?_)
        obtain rfl : x_18 = nI (((n + 1) + 1) + 1) := ex_18.trans (nI_add (((n + 1) + 1)) 1)
        refine va_put (D := (dC, dI)) (ci := 11) (v := .int (nI (((n + 1) + 1) + 1))) (ty := .int) (C := RX11) (T := TX11) (N := 52) hx hb hts hiX11 tyX11 tyX11_ok nmX11 hown hK hP hD hS 0 rfl rfl 2 (by decide) (hts (.fieldLink RX11 109 "ScissorsTableModel" "length" "I") (by decide +kernel)) (fun _ h9 => h9) rfl (by decide +kernel) rfl rfl (Nat.le_of_ble_eq_true rfl) dX11_brings_40 (fun H locs hP hD hS => ?_)
        have hP : va_P (dC, dI) vwCl [(m0, .inr (11, [.int 0, .ref m_tape, .int (nI (((n + 1) + 1) + 1)), .int 0, .int 0, .ref m_read, .int 0, .int 0, .int 0, .ref m_tets, .int 0, .int 0, .int 0, .int 0, .int 0, .int 0, .int 0, .int 0, .ref m_primes, .ref m_often, .ref m_normal, .ref m_termM, .ref m_termP, .ref m_termV, .ref m_sumFrom, .ref m_sumMany, .int 0, .int 0, .int 0, .int 0, .ref m_part, .ref m_fair, .ref m_heap, .ref m_pickTet, .ref m_pickEdge, .ref m_base, .ref m_baseM, .ref m_baseP, .ref m_rowsOf, .int 0, .ref m_grid, .ref m_times, .ref m_boxes, .ref m_cameFrom, .ref m_cameBy, .ref m_steps, .ref m_sides, .int 0, .int (-1), .ref m_next, .ref m_cube, .ref m_ways])), (m_tape, .inl (cB, 600, (.inl fb_17)))] H := hP
        have hD : va_D A [(m0, .inr (11, [.int 0, .ref m_tape, .int (nI (((n + 1) + 1) + 1)), .int 0, .int 0, .ref m_read, .int 0, .int 0, .int 0, .ref m_tets, .int 0, .int 0, .int 0, .int 0, .int 0, .int 0, .int 0, .int 0, .ref m_primes, .ref m_often, .ref m_normal, .ref m_termM, .ref m_termP, .ref m_termV, .ref m_sumFrom, .ref m_sumMany, .int 0, .int 0, .int 0, .int 0, .ref m_part, .ref m_fair, .ref m_heap, .ref m_pickTet, .ref m_pickEdge, .ref m_base, .ref m_baseM, .ref m_baseP, .ref m_rowsOf, .int 0, .ref m_grid, .ref m_times, .ref m_boxes, .ref m_cameFrom, .ref m_cameBy, .ref m_steps, .ref m_sides, .int 0, .int (-1), .ref m_next, .ref m_cube, .ref m_ways])), (m_tape, .inl (cB, 600, (.inl fb_17)))] := hD
        refine lv_iinc (v := 0) (lv' := [(2, .int 0), (3, .int x_14), (0, .ref m0), (1, .int p0)]) hx hb dX11_brings_43 hl (k := 1) rfl (by decide) (by decide) rfl (fun ls hl => ?_)
        refine lv_goto (tgt := 3) hx hb dX11_brings_46 (by decide) ?_
        refine lv_iload_n hx hb dX11_brings_3 rfl (lv_at hl 0 rfl) ?_
        refine lv_if_lt (tgt := 49) hx hb dX11_brings_4 (by decide) (fun c => absurd c (by decide)) (fun _ => ?_)
        refine lv_iload_n hx hb dX11_brings_7 rfl (lv_at hl 3 rfl) ?_
        refine lv_iload_n hx hb dX11_brings_8 rfl (lv_at hl 0 rfl) ?_
        refine lv_ishr hx hb dX11_brings_9 ?_
        refine lv_topi (fun x_19 ex_19 => ?_)
        refine lv_sipush (v := 255) hx hb dX11_brings_10 (by decide) ?_
        refine lv_iand hx hb dX11_brings_13 ?_
        refine lv_topi (fun x_20 ex_20 => ?_)
        refine lv_istore_n (lv' := [(3, .int x_20), (2, .int 0), (0, .ref m0), (1, .int p0)]) hx hb dX11_brings_14 rfl hl (by decide) rfl (fun ls hl => ?_)
        refine lv_iload_n hx hb dX11_brings_15 rfl (lv_at hl 0 rfl) ?_
        refine lv_if_ne (tgt := 22) hx hb dX11_brings_16 (by decide) (fun c_21 => ?_) (fun c_21 => ?_)
        · refine lv_aload_n hx hb dX11_brings_22 rfl (lv_at hl 2 rfl) ?_
          refine va_get (D := (dC, dI)) (ci := 11) (v := .ref m_tape) (C := RX11) (T := TX11) (N := 52) hx hb hts hiX11 hown hK hP 0 rfl rfl 1 (by decide) (hts (.fieldLink RX11 9 "ScissorsTableModel" "tape" "[B") (by decide +kernel)) (fun _ h9 => h9) rfl dX11_brings_23 ?_
          refine lv_aload_n hx hb dX11_brings_26 rfl (lv_at hl 2 rfl) ?_
          refine va_get (D := (dC, dI)) (ci := 11) (v := .int (nI (((n + 1) + 1) + 1))) (C := RX11) (T := TX11) (N := 52) hx hb hts hiX11 hown hK hP 0 rfl rfl 2 (by decide) (hts (.fieldLink RX11 109 "ScissorsTableModel" "length" "I") (by decide +kernel)) (fun _ h9 => h9) rfl dX11_brings_27 ?_
          refine lv_iload_n hx hb dX11_brings_30 rfl (lv_at hl 0 rfl) ?_
          refine lv_i2b hx hb dX11_brings_31 rfl ?_
          refine lv_topi (fun x_22 ex_22 => ?_)
          refine va_bast hx hb hK hP hD hS 1 0 rfl rfl (vp_in_nI (by omega) (by decide)) dX11_brings_32 (fun H locs hP hD hS => ?_)
          generalize upd fb_17 (nI (((n + 1) + 1) + 1)).toNatClampNeg (vp_nar .byte x_22) = fb_23 at hP hD
          have hP : va_P (dC, dI) vwCl [(m0, .inr (11, [.int 0, .ref m_tape, .int (nI (((n + 1) + 1) + 1)), .int 0, .int 0, .ref m_read, .int 0, .int 0, .int 0, .ref m_tets, .int 0, .int 0, .int 0, .int 0, .int 0, .int 0, .int 0, .int 0, .ref m_primes, .ref m_often, .ref m_normal, .ref m_termM, .ref m_termP, .ref m_termV, .ref m_sumFrom, .ref m_sumMany, .int 0, .int 0, .int 0, .int 0, .ref m_part, .ref m_fair, .ref m_heap, .ref m_pickTet, .ref m_pickEdge, .ref m_base, .ref m_baseM, .ref m_baseP, .ref m_rowsOf, .int 0, .ref m_grid, .ref m_times, .ref m_boxes, .ref m_cameFrom, .ref m_cameBy, .ref m_steps, .ref m_sides, .int 0, .int (-1), .ref m_next, .ref m_cube, .ref m_ways])), (m_tape, .inl (cB, 600, (.inl fb_23)))] H := hP
          have hD : va_D A [(m0, .inr (11, [.int 0, .ref m_tape, .int (nI (((n + 1) + 1) + 1)), .int 0, .int 0, .ref m_read, .int 0, .int 0, .int 0, .ref m_tets, .int 0, .int 0, .int 0, .int 0, .int 0, .int 0, .int 0, .int 0, .ref m_primes, .ref m_often, .ref m_normal, .ref m_termM, .ref m_termP, .ref m_termV, .ref m_sumFrom, .ref m_sumMany, .int 0, .int 0, .int 0, .int 0, .ref m_part, .ref m_fair, .ref m_heap, .ref m_pickTet, .ref m_pickEdge, .ref m_base, .ref m_baseM, .ref m_baseP, .ref m_rowsOf, .int 0, .ref m_grid, .ref m_times, .ref m_boxes, .ref m_cameFrom, .ref m_cameBy, .ref m_steps, .ref m_sides, .int 0, .int (-1), .ref m_next, .ref m_cube, .ref m_ways])), (m_tape, .inl (cB, 600, (.inl fb_23)))] := hD
          refine lv_aload_n hx hb dX11_brings_33 rfl (lv_at hl 2 rfl) ?_
          refine lv_dup hx hb dX11_brings_34 rfl ?_
          refine va_get (D := (dC, dI)) (ci := 11) (v := .int (nI (((n + 1) + 1) + 1))) (C := RX11) (T := TX11) (N := 52) hx hb hts hiX11 hown hK hP 0 rfl rfl 2 (by decide) (hts (.fieldLink RX11 109 "ScissorsTableModel" "length" "I") (by decide +kernel)) (fun _ h9 => h9) rfl dX11_brings_35 ?_
          refine lv_iconst (v := 1) hx hb dX11_brings_38 (by decide) ?_
          refine lv_iadd hx hb dX11_brings_39 ?_
          refine lv_topi (fun x_24 ex_24 => ?_)
          obtain rfl : x_24 = nI ((((n + 1) + 1) + 1) + 1) := ex_24.trans (nI_add ((((n + 1) + 1) + 1)) 1)
          refine va_put (D := (dC, dI)) (ci := 11) (v := .int (nI ((((n + 1) + 1) + 1) + 1))) (ty := .int) (C := RX11) (T := TX11) (N := 52) hx hb hts hiX11 tyX11 tyX11_ok nmX11 hown hK hP hD hS 0 rfl rfl 2 (by decide) (hts (.fieldLink RX11 109 "ScissorsTableModel" "length" "I") (by decide +kernel)) (fun _ h9 => h9) rfl (by decide +kernel) rfl rfl (Nat.le_of_ble_eq_true rfl) dX11_brings_40 (fun H locs hP hD hS => ?_)
          have hP : va_P (dC, dI) vwCl [(m0, .inr (11, [.int 0, .ref m_tape, .int (nI ((((n + 1) + 1) + 1) + 1)), .int 0, .int 0, .ref m_read, .int 0, .int 0, .int 0, .ref m_tets, .int 0, .int 0, .int 0, .int 0, .int 0, .int 0, .int 0, .int 0, .ref m_primes, .ref m_often, .ref m_normal, .ref m_termM, .ref m_termP, .ref m_termV, .ref m_sumFrom, .ref m_sumMany, .int 0, .int 0, .int 0, .int 0, .ref m_part, .ref m_fair, .ref m_heap, .ref m_pickTet, .ref m_pickEdge, .ref m_base, .ref m_baseM, .ref m_baseP, .ref m_rowsOf, .int 0, .ref m_grid, .ref m_times, .ref m_boxes, .ref m_cameFrom, .ref m_cameBy, .ref m_steps, .ref m_sides, .int 0, .int (-1), .ref m_next, .ref m_cube, .ref m_ways])), (m_tape, .inl (cB, 600, (.inl fb_23)))] H := hP
          have hD : va_D A [(m0, .inr (11, [.int 0, .ref m_tape, .int (nI ((((n + 1) + 1) + 1) + 1)), .int 0, .int 0, .ref m_read, .int 0, .int 0, .int 0, .ref m_tets, .int 0, .int 0, .int 0, .int 0, .int 0, .int 0, .int 0, .int 0, .ref m_primes, .ref m_often, .ref m_normal, .ref m_termM, .ref m_termP, .ref m_termV, .ref m_sumFrom, .ref m_sumMany, .int 0, .int 0, .int 0, .int 0, .ref m_part, .ref m_fair, .ref m_heap, .ref m_pickTet, .ref m_pickEdge, .ref m_base, .ref m_baseM, .ref m_baseP, .ref m_rowsOf, .int 0, .ref m_grid, .ref m_times, .ref m_boxes, .ref m_cameFrom, .ref m_cameBy, .ref m_steps, .ref m_sides, .int 0, .int (-1), .ref m_next, .ref m_cube, .ref m_ways])), (m_tape, .inl (cB, 600, (.inl fb_23)))] := hD
          refine lv_iinc (v := (-8)) (lv' := [(2, .int (-8)), (3, .int x_20), (0, .ref m0), (1, .int p0)]) hx hb dX11_brings_43 hl (k := 1) rfl (by decide) (by decide) rfl (fun ls hl => ?_)
          refine lv_goto (tgt := 3) hx hb dX11_brings_46 (by decide) ?_
          refine lv_iload_n hx hb dX11_brings_3 rfl (lv_at hl 0 rfl) ?_
          refine lv_if_lt (tgt := 49) hx hb dX11_brings_4 (by decide) (fun _ => ?_) (fun c => absurd (by decide) c)
          have h24 : sp_by p0 24 = 1 := if_neg (by rw [← ex_1, ← ex_2]; exact c_3)
          have h16 : sp_by p0 16 = 1 := if_neg (by rw [← ex_7, ← ex_8]; exact c_9)
          have h8 : sp_by p0 8 = 1 := if_neg (by rw [← ex_13, ← ex_14]; exact c_15)
          have h0 : sp_by p0 0 = 1 := if_neg (by rw [← ex_19, ← ex_20]; exact c_21)
          have hc : sp_cnt p0 = 4 := by unfold sp_cnt; rw [h24, h16, h8, h0]
          have hP9 := hP.sub (ws' := [(m0, .inr (11, [.int 0, .ref m_tape, .int (nI (n + 4)), .int 0, .int 0, .ref m_read, .int 0, .int 0, .int 0, .ref m_tets, .int 0, .int 0, .int 0, .int 0, .int 0, .int 0, .int 0, .int 0, .ref m_primes, .ref m_often, .ref m_normal, .ref m_termM, .ref m_termP, .ref m_termV, .ref m_sumFrom, .ref m_sumMany, .int 0, .int 0, .int 0, .int 0, .ref m_part, .ref m_fair, .ref m_heap, .ref m_pickTet, .ref m_pickEdge, .ref m_base, .ref m_baseM, .ref m_baseP, .ref m_rowsOf, .int 0, .ref m_grid, .ref m_times, .ref m_boxes, .ref m_cameFrom, .ref m_cameBy, .ref m_steps, .ref m_sides, .int 0, .int (-1), .ref m_next, .ref m_cube, .ref m_ways])), (m_tape, .inl (cB, 600, (.inl fb_23)))]) [0, 1] rfl
          have hD9 := hD.sub (ws' := [(m0, .inr (11, [.int 0, .ref m_tape, .int (nI (n + 4)), .int 0, .int 0, .ref m_read, .int 0, .int 0, .int 0, .ref m_tets, .int 0, .int 0, .int 0, .int 0, .int 0, .int 0, .int 0, .int 0, .ref m_primes, .ref m_often, .ref m_normal, .ref m_termM, .ref m_termP, .ref m_termV, .ref m_sumFrom, .ref m_sumMany, .int 0, .int 0, .int 0, .int 0, .ref m_part, .ref m_fair, .ref m_heap, .ref m_pickTet, .ref m_pickEdge, .ref m_base, .ref m_baseM, .ref m_baseP, .ref m_rowsOf, .int 0, .ref m_grid, .ref m_times, .ref m_boxes, .ref m_cameFrom, .ref m_cameBy, .ref m_steps, .ref m_sides, .int 0, .int (-1), .ref m_next, .ref m_cube, .ref m_ways])), (m_tape, .inl (cB, 600, (.inl fb_23)))]) [0, 1] (by decide) rfl
          exact W.vret hx hb hr (fun t ht hW => ⟨⟨(), rfl, trivial, fb_23, by rw [ht, hc]; exact hP9, va_K.moved hW.alike hK, by rw [hc]; exact hD9⟩, hS.F ht⟩) hS.2.2 dX11_brings_49
        · refine lv_goto (tgt := 43) hx hb dX11_brings_19 (by decide) ?_
          refine lv_iinc (v := (-8)) (lv' := [(2, .int (-8)), (3, .int x_20), (0, .ref m0), (1, .int p0)]) hx hb dX11_brings_43 hl (k := 1) rfl (by decide) (by decide) rfl (fun ls hl => ?_)
          refine lv_goto (tgt := 3) hx hb dX11_brings_46 (by decide) ?_
          refine lv_iload_n hx hb dX11_brings_3 rfl (lv_at hl 0 rfl) ?_
          refine lv_if_lt (tgt := 49) hx hb dX11_brings_4 (by decide) (fun _ => ?_) (fun c => absurd (by decide) c)
          have h24 : sp_by p0 24 = 1 := if_neg (by rw [← ex_1, ← ex_2]; exact c_3)
          have h16 : sp_by p0 16 = 1 := if_neg (by rw [← ex_7, ← ex_8]; exact c_9)
          have h8 : sp_by p0 8 = 1 := if_neg (by rw [← ex_13, ← ex_14]; exact c_15)
          have h0 : sp_by p0 0 = 0 := if_pos (by rw [← ex_19, ← ex_20]; exact c_21)
          have hc : sp_cnt p0 = 3 := by unfold sp_cnt; rw [h24, h16, h8, h0]
          have hP9 := hP.sub (ws' := [(m0, .inr (11, [.int 0, .ref m_tape, .int (nI (n + 3)), .int 0, .int 0, .ref m_read, .int 0, .int 0, .int 0, .ref m_tets, .int 0, .int 0, .int 0, .int 0, .int 0, .int 0, .int 0, .int 0, .ref m_primes, .ref m_often, .ref m_normal, .ref m_termM, .ref m_termP, .ref m_termV, .ref m_sumFrom, .ref m_sumMany, .int 0, .int 0, .int 0, .int 0, .ref m_part, .ref m_fair, .ref m_heap, .ref m_pickTet, .ref m_pickEdge, .ref m_base, .ref m_baseM, .ref m_baseP, .ref m_rowsOf, .int 0, .ref m_grid, .ref m_times, .ref m_boxes, .ref m_cameFrom, .ref m_cameBy, .ref m_steps, .ref m_sides, .int 0, .int (-1), .ref m_next, .ref m_cube, .ref m_ways])), (m_tape, .inl (cB, 600, (.inl fb_17)))]) [0, 1] rfl
          have hD9 := hD.sub (ws' := [(m0, .inr (11, [.int 0, .ref m_tape, .int (nI (n + 3)), .int 0, .int 0, .ref m_read, .int 0, .int 0, .int 0, .ref m_tets, .int 0, .int 0, .int 0, .int 0, .int 0, .int 0, .int 0, .int 0, .ref m_primes, .ref m_often, .ref m_normal, .ref m_termM, .ref m_termP, .ref m_termV, .ref m_sumFrom, .ref m_sumMany, .int 0, .int 0, .int 0, .int 0, .ref m_part, .ref m_fair, .ref m_heap, .ref m_pickTet, .ref m_pickEdge, .ref m_base, .ref m_baseM, .ref m_baseP, .ref m_rowsOf, .int 0, .ref m_grid, .ref m_times, .ref m_boxes, .ref m_cameFrom, .ref m_cameBy, .ref m_steps, .ref m_sides, .int 0, .int (-1), .ref m_next, .ref m_cube, .ref m_ways])), (m_tape, .inl (cB, 600, (.inl fb_17)))]) [0, 1] (by decide) rfl
          exact W.vret hx hb hr (fun t ht hW => ⟨⟨(), rfl, trivial, fb_17, by rw [ht, hc]; exact hP9, va_K.moved hW.alike hK, by rw [hc]; exact hD9⟩, hS.F ht⟩) hS.2.2 dX11_brings_49
      · refine lv_goto (tgt := 43) hx hb dX11_brings_19 (by decide) ?_
        refine lv_iinc (v := 0) (lv' := [(2, .int 0), (3, .int x_14), (0, .ref m0), (1, .int p0)]) hx hb dX11_brings_43 hl (k := 1) rfl (by decide) (by decide) rfl (fun ls hl => ?_)
        refine lv_goto (tgt := 3) hx hb dX11_brings_46 (by decide) ?_
        refine lv_iload_n hx hb dX11_brings_3 rfl (lv_at hl 0 rfl) ?_
        refine lv_if_lt (tgt := 49) hx hb dX11_brings_4 (by decide) (fun c => absurd c (by decide)) (fun _ => ?_)
        refine lv_iload_n hx hb dX11_brings_7 rfl (lv_at hl 3 rfl) ?_
        refine lv_iload_n hx hb dX11_brings_8 rfl (lv_at hl 0 rfl) ?_
        refine lv_ishr hx hb dX11_brings_9 ?_
        refine lv_topi (fun x_25 ex_25 => ?_)
        refine lv_sipush (v := 255) hx hb dX11_brings_10 (by decide) ?_
        refine lv_iand hx hb dX11_brings_13 ?_
        refine lv_topi (fun x_26 ex_26 => ?_)
        refine lv_istore_n (lv' := [(3, .int x_26), (2, .int 0), (0, .ref m0), (1, .int p0)]) hx hb dX11_brings_14 rfl hl (by decide) rfl (fun ls hl => ?_)
        refine lv_iload_n hx hb dX11_brings_15 rfl (lv_at hl 0 rfl) ?_
        refine lv_if_ne (tgt := 22) hx hb dX11_brings_16 (by decide) (fun c_27 => ?_) (fun c_27 => ?_)
        · refine lv_aload_n hx hb dX11_brings_22 rfl (lv_at hl 2 rfl) ?_
          refine va_get (D := (dC, dI)) (ci := 11) (v := .ref m_tape) (C := RX11) (T := TX11) (N := 52) hx hb hts hiX11 hown hK hP 0 rfl rfl 1 (by decide) (hts (.fieldLink RX11 9 "ScissorsTableModel" "tape" "[B") (by decide +kernel)) (fun _ h9 => h9) rfl dX11_brings_23 ?_
          refine lv_aload_n hx hb dX11_brings_26 rfl (lv_at hl 2 rfl) ?_
          refine va_get (D := (dC, dI)) (ci := 11) (v := .int (nI ((n + 1) + 1))) (C := RX11) (T := TX11) (N := 52) hx hb hts hiX11 hown hK hP 0 rfl rfl 2 (by decide) (hts (.fieldLink RX11 109 "ScissorsTableModel" "length" "I") (by decide +kernel)) (fun _ h9 => h9) rfl dX11_brings_27 ?_
          refine lv_iload_n hx hb dX11_brings_30 rfl (lv_at hl 0 rfl) ?_
          refine lv_i2b hx hb dX11_brings_31 rfl ?_
          refine lv_topi (fun x_28 ex_28 => ?_)
          refine va_bast hx hb hK hP hD hS 1 0 rfl rfl (vp_in_nI (by omega) (by decide)) dX11_brings_32 (fun H locs hP hD hS => ?_)
          generalize upd fb_11 (nI ((n + 1) + 1)).toNatClampNeg (vp_nar .byte x_28) = fb_29 at hP hD
          have hP : va_P (dC, dI) vwCl [(m0, .inr (11, [.int 0, .ref m_tape, .int (nI ((n + 1) + 1)), .int 0, .int 0, .ref m_read, .int 0, .int 0, .int 0, .ref m_tets, .int 0, .int 0, .int 0, .int 0, .int 0, .int 0, .int 0, .int 0, .ref m_primes, .ref m_often, .ref m_normal, .ref m_termM, .ref m_termP, .ref m_termV, .ref m_sumFrom, .ref m_sumMany, .int 0, .int 0, .int 0, .int 0, .ref m_part, .ref m_fair, .ref m_heap, .ref m_pickTet, .ref m_pickEdge, .ref m_base, .ref m_baseM, .ref m_baseP, .ref m_rowsOf, .int 0, .ref m_grid, .ref m_times, .ref m_boxes, .ref m_cameFrom, .ref m_cameBy, .ref m_steps, .ref m_sides, .int 0, .int (-1), .ref m_next, .ref m_cube, .ref m_ways])), (m_tape, .inl (cB, 600, (.inl fb_29)))] H := hP
          have hD : va_D A [(m0, .inr (11, [.int 0, .ref m_tape, .int (nI ((n + 1) + 1)), .int 0, .int 0, .ref m_read, .int 0, .int 0, .int 0, .ref m_tets, .int 0, .int 0, .int 0, .int 0, .int 0, .int 0, .int 0, .int 0, .ref m_primes, .ref m_often, .ref m_normal, .ref m_termM, .ref m_termP, .ref m_termV, .ref m_sumFrom, .ref m_sumMany, .int 0, .int 0, .int 0, .int 0, .ref m_part, .ref m_fair, .ref m_heap, .ref m_pickTet, .ref m_pickEdge, .ref m_base, .ref m_baseM, .ref m_baseP, .ref m_rowsOf, .int 0, .ref m_grid, .ref m_times, .ref m_boxes, .ref m_cameFrom, .ref m_cameBy, .ref m_steps, .ref m_sides, .int 0, .int (-1), .ref m_next, .ref m_cube, .ref m_ways])), (m_tape, .inl (cB, 600, (.inl fb_29)))] := hD
          refine lv_aload_n hx hb dX11_brings_33 rfl (lv_at hl 2 rfl) ?_
          refine lv_dup hx hb dX11_brings_34 rfl ?_
          refine va_get (D := (dC, dI)) (ci := 11) (v := .int (nI ((n + 1) + 1))) (C := RX11) (T := TX11) (N := 52) hx hb hts hiX11 hown hK hP 0 rfl rfl 2 (by decide) (hts (.fieldLink RX11 109 "ScissorsTableModel" "length" "I") (by decide +kernel)) (fun _ h9 => h9) rfl dX11_brings_35 ?_
          refine lv_iconst (v := 1) hx hb dX11_brings_38 (by decide) ?_
          refine lv_iadd hx hb dX11_brings_39 ?_
          refine lv_topi (fun x_30 ex_30 => ?_)
          obtain rfl : x_30 = nI (((n + 1) + 1) + 1) := ex_30.trans (nI_add (((n + 1) + 1)) 1)
          refine va_put (D := (dC, dI)) (ci := 11) (v := .int (nI (((n + 1) + 1) + 1))) (ty := .int) (C := RX11) (T := TX11) (N := 52) hx hb hts hiX11 tyX11 tyX11_ok nmX11 hown hK hP hD hS 0 rfl rfl 2 (by decide) (hts (.fieldLink RX11 109 "ScissorsTableModel" "length" "I") (by decide +kernel)) (fun _ h9 => h9) rfl (by decide +kernel) rfl rfl (Nat.le_of_ble_eq_true rfl) dX11_brings_40 (fun H locs hP hD hS => ?_)
          have hP : va_P (dC, dI) vwCl [(m0, .inr (11, [.int 0, .ref m_tape, .int (nI (((n + 1) + 1) + 1)), .int 0, .int 0, .ref m_read, .int 0, .int 0, .int 0, .ref m_tets, .int 0, .int 0, .int 0, .int 0, .int 0, .int 0, .int 0, .int 0, .ref m_primes, .ref m_often, .ref m_normal, .ref m_termM, .ref m_termP, .ref m_termV, .ref m_sumFrom, .ref m_sumMany, .int 0, .int 0, .int 0, .int 0, .ref m_part, .ref m_fair, .ref m_heap, .ref m_pickTet, .ref m_pickEdge, .ref m_base, .ref m_baseM, .ref m_baseP, .ref m_rowsOf, .int 0, .ref m_grid, .ref m_times, .ref m_boxes, .ref m_cameFrom, .ref m_cameBy, .ref m_steps, .ref m_sides, .int 0, .int (-1), .ref m_next, .ref m_cube, .ref m_ways])), (m_tape, .inl (cB, 600, (.inl fb_29)))] H := hP
          have hD : va_D A [(m0, .inr (11, [.int 0, .ref m_tape, .int (nI (((n + 1) + 1) + 1)), .int 0, .int 0, .ref m_read, .int 0, .int 0, .int 0, .ref m_tets, .int 0, .int 0, .int 0, .int 0, .int 0, .int 0, .int 0, .int 0, .ref m_primes, .ref m_often, .ref m_normal, .ref m_termM, .ref m_termP, .ref m_termV, .ref m_sumFrom, .ref m_sumMany, .int 0, .int 0, .int 0, .int 0, .ref m_part, .ref m_fair, .ref m_heap, .ref m_pickTet, .ref m_pickEdge, .ref m_base, .ref m_baseM, .ref m_baseP, .ref m_rowsOf, .int 0, .ref m_grid, .ref m_times, .ref m_boxes, .ref m_cameFrom, .ref m_cameBy, .ref m_steps, .ref m_sides, .int 0, .int (-1), .ref m_next, .ref m_cube, .ref m_ways])), (m_tape, .inl (cB, 600, (.inl fb_29)))] := hD
          refine lv_iinc (v := (-8)) (lv' := [(2, .int (-8)), (3, .int x_26), (0, .ref m0), (1, .int p0)]) hx hb dX11_brings_43 hl (k := 1) rfl (by decide) (by decide) rfl (fun ls hl => ?_)
          refine lv_goto (tgt := 3) hx hb dX11_brings_46 (by decide) ?_
          refine lv_iload_n hx hb dX11_brings_3 rfl (lv_at hl 0 rfl) ?_
          refine lv_if_lt (tgt := 49) hx hb dX11_brings_4 (by decide) (fun _ => ?_) (fun c => absurd (by decide) c)
          have h24 : sp_by p0 24 = 1 := if_neg (by rw [← ex_1, ← ex_2]; exact c_3)
          have h16 : sp_by p0 16 = 1 := if_neg (by rw [← ex_7, ← ex_8]; exact c_9)
          have h8 : sp_by p0 8 = 0 := if_pos (by rw [← ex_13, ← ex_14]; exact c_15)
          have h0 : sp_by p0 0 = 1 := if_neg (by rw [← ex_25, ← ex_26]; exact c_27)
          have hc : sp_cnt p0 = 3 := by unfold sp_cnt; rw [h24, h16, h8, h0]
          have hP9 := hP.sub (ws' := [(m0, .inr (11, [.int 0, .ref m_tape, .int (nI (n + 3)), .int 0, .int 0, .ref m_read, .int 0, .int 0, .int 0, .ref m_tets, .int 0, .int 0, .int 0, .int 0, .int 0, .int 0, .int 0, .int 0, .ref m_primes, .ref m_often, .ref m_normal, .ref m_termM, .ref m_termP, .ref m_termV, .ref m_sumFrom, .ref m_sumMany, .int 0, .int 0, .int 0, .int 0, .ref m_part, .ref m_fair, .ref m_heap, .ref m_pickTet, .ref m_pickEdge, .ref m_base, .ref m_baseM, .ref m_baseP, .ref m_rowsOf, .int 0, .ref m_grid, .ref m_times, .ref m_boxes, .ref m_cameFrom, .ref m_cameBy, .ref m_steps, .ref m_sides, .int 0, .int (-1), .ref m_next, .ref m_cube, .ref m_ways])), (m_tape, .inl (cB, 600, (.inl fb_29)))]) [0, 1] rfl
          have hD9 := hD.sub (ws' := [(m0, .inr (11, [.int 0, .ref m_tape, .int (nI (n + 3)), .int 0, .int 0, .ref m_read, .int 0, .int 0, .int 0, .ref m_tets, .int 0, .int 0, .int 0, .int 0, .int 0, .int 0, .int 0, .int 0, .ref m_primes, .ref m_often, .ref m_normal, .ref m_termM, .ref m_termP, .ref m_termV, .ref m_sumFrom, .ref m_sumMany, .int 0, .int 0, .int 0, .int 0, .ref m_part, .ref m_fair, .ref m_heap, .ref m_pickTet, .ref m_pickEdge, .ref m_base, .ref m_baseM, .ref m_baseP, .ref m_rowsOf, .int 0, .ref m_grid, .ref m_times, .ref m_boxes, .ref m_cameFrom, .ref m_cameBy, .ref m_steps, .ref m_sides, .int 0, .int (-1), .ref m_next, .ref m_cube, .ref m_ways])), (m_tape, .inl (cB, 600, (.inl fb_29)))]) [0, 1] (by decide) rfl
          exact W.vret hx hb hr (fun t ht hW => ⟨⟨(), rfl, trivial, fb_29, by rw [ht, hc]; exact hP9, va_K.moved hW.alike hK, by rw [hc]; exact hD9⟩, hS.F ht⟩) hS.2.2 dX11_brings_49
        · refine lv_goto (tgt := 43) hx hb dX11_brings_19 (by decide) ?_
          refine lv_iinc (v := (-8)) (lv' := [(2, .int (-8)), (3, .int x_26), (0, .ref m0), (1, .int p0)]) hx hb dX11_brings_43 hl (k := 1) rfl (by decide) (by decide) rfl (fun ls hl => ?_)
          refine lv_goto (tgt := 3) hx hb dX11_brings_46 (by decide) ?_
          refine lv_iload_n hx hb dX11_brings_3 rfl (lv_at hl 0 rfl) ?_
          refine lv_if_lt (tgt := 49) hx hb dX11_brings_4 (by decide) (fun _ => ?_) (fun c => absurd (by decide) c)
          have h24 : sp_by p0 24 = 1 := if_neg (by rw [← ex_1, ← ex_2]; exact c_3)
          have h16 : sp_by p0 16 = 1 := if_neg (by rw [← ex_7, ← ex_8]; exact c_9)
          have h8 : sp_by p0 8 = 0 := if_pos (by rw [← ex_13, ← ex_14]; exact c_15)
          have h0 : sp_by p0 0 = 0 := if_pos (by rw [← ex_25, ← ex_26]; exact c_27)
          have hc : sp_cnt p0 = 2 := by unfold sp_cnt; rw [h24, h16, h8, h0]
          have hP9 := hP.sub (ws' := [(m0, .inr (11, [.int 0, .ref m_tape, .int (nI (n + 2)), .int 0, .int 0, .ref m_read, .int 0, .int 0, .int 0, .ref m_tets, .int 0, .int 0, .int 0, .int 0, .int 0, .int 0, .int 0, .int 0, .ref m_primes, .ref m_often, .ref m_normal, .ref m_termM, .ref m_termP, .ref m_termV, .ref m_sumFrom, .ref m_sumMany, .int 0, .int 0, .int 0, .int 0, .ref m_part, .ref m_fair, .ref m_heap, .ref m_pickTet, .ref m_pickEdge, .ref m_base, .ref m_baseM, .ref m_baseP, .ref m_rowsOf, .int 0, .ref m_grid, .ref m_times, .ref m_boxes, .ref m_cameFrom, .ref m_cameBy, .ref m_steps, .ref m_sides, .int 0, .int (-1), .ref m_next, .ref m_cube, .ref m_ways])), (m_tape, .inl (cB, 600, (.inl fb_11)))]) [0, 1] rfl
          have hD9 := hD.sub (ws' := [(m0, .inr (11, [.int 0, .ref m_tape, .int (nI (n + 2)), .int 0, .int 0, .ref m_read, .int 0, .int 0, .int 0, .ref m_tets, .int 0, .int 0, .int 0, .int 0, .int 0, .int 0, .int 0, .int 0, .ref m_primes, .ref m_often, .ref m_normal, .ref m_termM, .ref m_termP, .ref m_termV, .ref m_sumFrom, .ref m_sumMany, .int 0, .int 0, .int 0, .int 0, .ref m_part, .ref m_fair, .ref m_heap, .ref m_pickTet, .ref m_pickEdge, .ref m_base, .ref m_baseM, .ref m_baseP, .ref m_rowsOf, .int 0, .ref m_grid, .ref m_times, .ref m_boxes, .ref m_cameFrom, .ref m_cameBy, .ref m_steps, .ref m_sides, .int 0, .int (-1), .ref m_next, .ref m_cube, .ref m_ways])), (m_tape, .inl (cB, 600, (.inl fb_11)))]) [0, 1] (by decide) rfl
          exact W.vret hx hb hr (fun t ht hW => ⟨⟨(), rfl, trivial, fb_11, by rw [ht, hc]; exact hP9, va_K.moved hW.alike hK, by rw [hc]; exact hD9⟩, hS.F ht⟩) hS.2.2 dX11_brings_49
    · refine lv_goto (tgt := 43) hx hb dX11_brings_19 (by decide) ?_
      refine lv_iinc (v := 8) (lv' := [(2, .int 8), (3, .int x_8), (0, .ref m0), (1, .int p0)]) hx hb dX11_brings_43 hl (k := 1) rfl (by decide) (by decide) rfl (fun ls hl => ?_)
      refine lv_goto (tgt := 3) hx hb dX11_brings_46 (by decide) ?_
      refine lv_iload_n hx hb dX11_brings_3 rfl (lv_at hl 0 rfl) ?_
      refine lv_if_lt (tgt := 49) hx hb dX11_brings_4 (by decide) (fun c => absurd c (by decide)) (fun _ => ?_)
      refine lv_iload_n hx hb dX11_brings_7 rfl (lv_at hl 3 rfl) ?_
      refine lv_iload_n hx hb dX11_brings_8 rfl (lv_at hl 0 rfl) ?_
      refine lv_ishr hx hb dX11_brings_9 ?_
      refine lv_topi (fun x_31 ex_31 => ?_)
      refine lv_sipush (v := 255) hx hb dX11_brings_10 (by decide) ?_
      refine lv_iand hx hb dX11_brings_13 ?_
      refine lv_topi (fun x_32 ex_32 => ?_)
      refine lv_istore_n (lv' := [(3, .int x_32), (2, .int 8), (0, .ref m0), (1, .int p0)]) hx hb dX11_brings_14 rfl hl (by decide) rfl (fun ls hl => ?_)
      refine lv_iload_n hx hb dX11_brings_15 rfl (lv_at hl 0 rfl) ?_
      refine lv_if_ne (tgt := 22) hx hb dX11_brings_16 (by decide) (fun c_33 => ?_) (fun c_33 => ?_)
      · refine lv_aload_n hx hb dX11_brings_22 rfl (lv_at hl 2 rfl) ?_
        refine va_get (D := (dC, dI)) (ci := 11) (v := .ref m_tape) (C := RX11) (T := TX11) (N := 52) hx hb hts hiX11 hown hK hP 0 rfl rfl 1 (by decide) (hts (.fieldLink RX11 9 "ScissorsTableModel" "tape" "[B") (by decide +kernel)) (fun _ h9 => h9) rfl dX11_brings_23 ?_
        refine lv_aload_n hx hb dX11_brings_26 rfl (lv_at hl 2 rfl) ?_
        refine va_get (D := (dC, dI)) (ci := 11) (v := .int (nI (n + 1))) (C := RX11) (T := TX11) (N := 52) hx hb hts hiX11 hown hK hP 0 rfl rfl 2 (by decide) (hts (.fieldLink RX11 109 "ScissorsTableModel" "length" "I") (by decide +kernel)) (fun _ h9 => h9) rfl dX11_brings_27 ?_
        refine lv_iload_n hx hb dX11_brings_30 rfl (lv_at hl 0 rfl) ?_
        refine lv_i2b hx hb dX11_brings_31 rfl ?_
        refine lv_topi (fun x_34 ex_34 => ?_)
        refine va_bast hx hb hK hP hD hS 1 0 rfl rfl (vp_in_nI (by omega) (by decide)) dX11_brings_32 (fun H locs hP hD hS => ?_)
        generalize upd fb_5 (nI (n + 1)).toNatClampNeg (vp_nar .byte x_34) = fb_35 at hP hD
        have hP : va_P (dC, dI) vwCl [(m0, .inr (11, [.int 0, .ref m_tape, .int (nI (n + 1)), .int 0, .int 0, .ref m_read, .int 0, .int 0, .int 0, .ref m_tets, .int 0, .int 0, .int 0, .int 0, .int 0, .int 0, .int 0, .int 0, .ref m_primes, .ref m_often, .ref m_normal, .ref m_termM, .ref m_termP, .ref m_termV, .ref m_sumFrom, .ref m_sumMany, .int 0, .int 0, .int 0, .int 0, .ref m_part, .ref m_fair, .ref m_heap, .ref m_pickTet, .ref m_pickEdge, .ref m_base, .ref m_baseM, .ref m_baseP, .ref m_rowsOf, .int 0, .ref m_grid, .ref m_times, .ref m_boxes, .ref m_cameFrom, .ref m_cameBy, .ref m_steps, .ref m_sides, .int 0, .int (-1), .ref m_next, .ref m_cube, .ref m_ways])), (m_tape, .inl (cB, 600, (.inl fb_35)))] H := hP
        have hD : va_D A [(m0, .inr (11, [.int 0, .ref m_tape, .int (nI (n + 1)), .int 0, .int 0, .ref m_read, .int 0, .int 0, .int 0, .ref m_tets, .int 0, .int 0, .int 0, .int 0, .int 0, .int 0, .int 0, .int 0, .ref m_primes, .ref m_often, .ref m_normal, .ref m_termM, .ref m_termP, .ref m_termV, .ref m_sumFrom, .ref m_sumMany, .int 0, .int 0, .int 0, .int 0, .ref m_part, .ref m_fair, .ref m_heap, .ref m_pickTet, .ref m_pickEdge, .ref m_base, .ref m_baseM, .ref m_baseP, .ref m_rowsOf, .int 0, .ref m_grid, .ref m_times, .ref m_boxes, .ref m_cameFrom, .ref m_cameBy, .ref m_steps, .ref m_sides, .int 0, .int (-1), .ref m_next, .ref m_cube, .ref m_ways])), (m_tape, .inl (cB, 600, (.inl fb_35)))] := hD
        refine lv_aload_n hx hb dX11_brings_33 rfl (lv_at hl 2 rfl) ?_
        refine lv_dup hx hb dX11_brings_34 rfl ?_
        refine va_get (D := (dC, dI)) (ci := 11) (v := .int (nI (n + 1))) (C := RX11) (T := TX11) (N := 52) hx hb hts hiX11 hown hK hP 0 rfl rfl 2 (by decide) (hts (.fieldLink RX11 109 "ScissorsTableModel" "length" "I") (by decide +kernel)) (fun _ h9 => h9) rfl dX11_brings_35 ?_
        refine lv_iconst (v := 1) hx hb dX11_brings_38 (by decide) ?_
        refine lv_iadd hx hb dX11_brings_39 ?_
        refine lv_topi (fun x_36 ex_36 => ?_)
        obtain rfl : x_36 = nI ((n + 1) + 1) := ex_36.trans (nI_add ((n + 1)) 1)
        refine va_put (D := (dC, dI)) (ci := 11) (v := .int (nI ((n + 1) + 1))) (ty := .int) (C := RX11) (T := TX11) (N := 52) hx hb hts hiX11 tyX11 tyX11_ok nmX11 hown hK hP hD hS 0 rfl rfl 2 (by decide) (hts (.fieldLink RX11 109 "ScissorsTableModel" "length" "I") (by decide +kernel)) (fun _ h9 => h9) rfl (by decide +kernel) rfl rfl (Nat.le_of_ble_eq_true rfl) dX11_brings_40 (fun H locs hP hD hS => ?_)
        have hP : va_P (dC, dI) vwCl [(m0, .inr (11, [.int 0, .ref m_tape, .int (nI ((n + 1) + 1)), .int 0, .int 0, .ref m_read, .int 0, .int 0, .int 0, .ref m_tets, .int 0, .int 0, .int 0, .int 0, .int 0, .int 0, .int 0, .int 0, .ref m_primes, .ref m_often, .ref m_normal, .ref m_termM, .ref m_termP, .ref m_termV, .ref m_sumFrom, .ref m_sumMany, .int 0, .int 0, .int 0, .int 0, .ref m_part, .ref m_fair, .ref m_heap, .ref m_pickTet, .ref m_pickEdge, .ref m_base, .ref m_baseM, .ref m_baseP, .ref m_rowsOf, .int 0, .ref m_grid, .ref m_times, .ref m_boxes, .ref m_cameFrom, .ref m_cameBy, .ref m_steps, .ref m_sides, .int 0, .int (-1), .ref m_next, .ref m_cube, .ref m_ways])), (m_tape, .inl (cB, 600, (.inl fb_35)))] H := hP
        have hD : va_D A [(m0, .inr (11, [.int 0, .ref m_tape, .int (nI ((n + 1) + 1)), .int 0, .int 0, .ref m_read, .int 0, .int 0, .int 0, .ref m_tets, .int 0, .int 0, .int 0, .int 0, .int 0, .int 0, .int 0, .int 0, .ref m_primes, .ref m_often, .ref m_normal, .ref m_termM, .ref m_termP, .ref m_termV, .ref m_sumFrom, .ref m_sumMany, .int 0, .int 0, .int 0, .int 0, .ref m_part, .ref m_fair, .ref m_heap, .ref m_pickTet, .ref m_pickEdge, .ref m_base, .ref m_baseM, .ref m_baseP, .ref m_rowsOf, .int 0, .ref m_grid, .ref m_times, .ref m_boxes, .ref m_cameFrom, .ref m_cameBy, .ref m_steps, .ref m_sides, .int 0, .int (-1), .ref m_next, .ref m_cube, .ref m_ways])), (m_tape, .inl (cB, 600, (.inl fb_35)))] := hD
        refine lv_iinc (v := 0) (lv' := [(2, .int 0), (3, .int x_32), (0, .ref m0), (1, .int p0)]) hx hb dX11_brings_43 hl (k := 1) rfl (by decide) (by decide) rfl (fun ls hl => ?_)
        refine lv_goto (tgt := 3) hx hb dX11_brings_46 (by decide) ?_
        refine lv_iload_n hx hb dX11_brings_3 rfl (lv_at hl 0 rfl) ?_
        refine lv_if_lt (tgt := 49) hx hb dX11_brings_4 (by decide) (fun c => absurd c (by decide)) (fun _ => ?_)
        refine lv_iload_n hx hb dX11_brings_7 rfl (lv_at hl 3 rfl) ?_
        refine lv_iload_n hx hb dX11_brings_8 rfl (lv_at hl 0 rfl) ?_
        refine lv_ishr hx hb dX11_brings_9 ?_
        refine lv_topi (fun x_37 ex_37 => ?_)
        refine lv_sipush (v := 255) hx hb dX11_brings_10 (by decide) ?_
        refine lv_iand hx hb dX11_brings_13 ?_
        refine lv_topi (fun x_38 ex_38 => ?_)
        refine lv_istore_n (lv' := [(3, .int x_38), (2, .int 0), (0, .ref m0), (1, .int p0)]) hx hb dX11_brings_14 rfl hl (by decide) rfl (fun ls hl => ?_)
        refine lv_iload_n hx hb dX11_brings_15 rfl (lv_at hl 0 rfl) ?_
        refine lv_if_ne (tgt := 22) hx hb dX11_brings_16 (by decide) (fun c_39 => ?_) (fun c_39 => ?_)
        · refine lv_aload_n hx hb dX11_brings_22 rfl (lv_at hl 2 rfl) ?_
          refine va_get (D := (dC, dI)) (ci := 11) (v := .ref m_tape) (C := RX11) (T := TX11) (N := 52) hx hb hts hiX11 hown hK hP 0 rfl rfl 1 (by decide) (hts (.fieldLink RX11 9 "ScissorsTableModel" "tape" "[B") (by decide +kernel)) (fun _ h9 => h9) rfl dX11_brings_23 ?_
          refine lv_aload_n hx hb dX11_brings_26 rfl (lv_at hl 2 rfl) ?_
          refine va_get (D := (dC, dI)) (ci := 11) (v := .int (nI ((n + 1) + 1))) (C := RX11) (T := TX11) (N := 52) hx hb hts hiX11 hown hK hP 0 rfl rfl 2 (by decide) (hts (.fieldLink RX11 109 "ScissorsTableModel" "length" "I") (by decide +kernel)) (fun _ h9 => h9) rfl dX11_brings_27 ?_
          refine lv_iload_n hx hb dX11_brings_30 rfl (lv_at hl 0 rfl) ?_
          refine lv_i2b hx hb dX11_brings_31 rfl ?_
          refine lv_topi (fun x_40 ex_40 => ?_)
          refine va_bast hx hb hK hP hD hS 1 0 rfl rfl (vp_in_nI (by omega) (by decide)) dX11_brings_32 (fun H locs hP hD hS => ?_)
          generalize upd fb_35 (nI ((n + 1) + 1)).toNatClampNeg (vp_nar .byte x_40) = fb_41 at hP hD
          have hP : va_P (dC, dI) vwCl [(m0, .inr (11, [.int 0, .ref m_tape, .int (nI ((n + 1) + 1)), .int 0, .int 0, .ref m_read, .int 0, .int 0, .int 0, .ref m_tets, .int 0, .int 0, .int 0, .int 0, .int 0, .int 0, .int 0, .int 0, .ref m_primes, .ref m_often, .ref m_normal, .ref m_termM, .ref m_termP, .ref m_termV, .ref m_sumFrom, .ref m_sumMany, .int 0, .int 0, .int 0, .int 0, .ref m_part, .ref m_fair, .ref m_heap, .ref m_pickTet, .ref m_pickEdge, .ref m_base, .ref m_baseM, .ref m_baseP, .ref m_rowsOf, .int 0, .ref m_grid, .ref m_times, .ref m_boxes, .ref m_cameFrom, .ref m_cameBy, .ref m_steps, .ref m_sides, .int 0, .int (-1), .ref m_next, .ref m_cube, .ref m_ways])), (m_tape, .inl (cB, 600, (.inl fb_41)))] H := hP
          have hD : va_D A [(m0, .inr (11, [.int 0, .ref m_tape, .int (nI ((n + 1) + 1)), .int 0, .int 0, .ref m_read, .int 0, .int 0, .int 0, .ref m_tets, .int 0, .int 0, .int 0, .int 0, .int 0, .int 0, .int 0, .int 0, .ref m_primes, .ref m_often, .ref m_normal, .ref m_termM, .ref m_termP, .ref m_termV, .ref m_sumFrom, .ref m_sumMany, .int 0, .int 0, .int 0, .int 0, .ref m_part, .ref m_fair, .ref m_heap, .ref m_pickTet, .ref m_pickEdge, .ref m_base, .ref m_baseM, .ref m_baseP, .ref m_rowsOf, .int 0, .ref m_grid, .ref m_times, .ref m_boxes, .ref m_cameFrom, .ref m_cameBy, .ref m_steps, .ref m_sides, .int 0, .int (-1), .ref m_next, .ref m_cube, .ref m_ways])), (m_tape, .inl (cB, 600, (.inl fb_41)))] := hD
          refine lv_aload_n hx hb dX11_brings_33 rfl (lv_at hl 2 rfl) ?_
          refine lv_dup hx hb dX11_brings_34 rfl ?_
          refine va_get (D := (dC, dI)) (ci := 11) (v := .int (nI ((n + 1) + 1))) (C := RX11) (T := TX11) (N := 52) hx hb hts hiX11 hown hK hP 0 rfl rfl 2 (by decide) (hts (.fieldLink RX11 109 "ScissorsTableModel" "length" "I") (by decide +kernel)) (fun _ h9 => h9) rfl dX11_brings_35 ?_
          refine lv_iconst (v := 1) hx hb dX11_brings_38 (by decide) ?_
          refine lv_iadd hx hb dX11_brings_39 ?_
          refine lv_topi (fun x_42 ex_42 => ?_)
          obtain rfl : x_42 = nI (((n + 1) + 1) + 1) := ex_42.trans (nI_add (((n + 1) + 1)) 1)
          refine va_put (D := (dC, dI)) (ci := 11) (v := .int (nI (((n + 1) + 1) + 1))) (ty := .int) (C := RX11) (T := TX11) (N := 52) hx hb hts hiX11 tyX11 tyX11_ok nmX11 hown hK hP hD hS 0 rfl rfl 2 (by decide) (hts (.fieldLink RX11 109 "ScissorsTableModel" "length" "I") (by decide +kernel)) (fun _ h9 => h9) rfl (by decide +kernel) rfl rfl (Nat.le_of_ble_eq_true rfl) dX11_brings_40 (fun H locs hP hD hS => ?_)
          have hP : va_P (dC, dI) vwCl [(m0, .inr (11, [.int 0, .ref m_tape, .int (nI (((n + 1) + 1) + 1)), .int 0, .int 0, .ref m_read, .int 0, .int 0, .int 0, .ref m_tets, .int 0, .int 0, .int 0, .int 0, .int 0, .int 0, .int 0, .int 0, .ref m_primes, .ref m_often, .ref m_normal, .ref m_termM, .ref m_termP, .ref m_termV, .ref m_sumFrom, .ref m_sumMany, .int 0, .int 0, .int 0, .int 0, .ref m_part, .ref m_fair, .ref m_heap, .ref m_pickTet, .ref m_pickEdge, .ref m_base, .ref m_baseM, .ref m_baseP, .ref m_rowsOf, .int 0, .ref m_grid, .ref m_times, .ref m_boxes, .ref m_cameFrom, .ref m_cameBy, .ref m_steps, .ref m_sides, .int 0, .int (-1), .ref m_next, .ref m_cube, .ref m_ways])), (m_tape, .inl (cB, 600, (.inl fb_41)))] H := hP
          have hD : va_D A [(m0, .inr (11, [.int 0, .ref m_tape, .int (nI (((n + 1) + 1) + 1)), .int 0, .int 0, .ref m_read, .int 0, .int 0, .int 0, .ref m_tets, .int 0, .int 0, .int 0, .int 0, .int 0, .int 0, .int 0, .int 0, .ref m_primes, .ref m_often, .ref m_normal, .ref m_termM, .ref m_termP, .ref m_termV, .ref m_sumFrom, .ref m_sumMany, .int 0, .int 0, .int 0, .int 0, .ref m_part, .ref m_fair, .ref m_heap, .ref m_pickTet, .ref m_pickEdge, .ref m_base, .ref m_baseM, .ref m_baseP, .ref m_rowsOf, .int 0, .ref m_grid, .ref m_times, .ref m_boxes, .ref m_cameFrom, .ref m_cameBy, .ref m_steps, .ref m_sides, .int 0, .int (-1), .ref m_next, .ref m_cube, .ref m_ways])), (m_tape, .inl (cB, 600, (.inl fb_41)))] := hD
          refine lv_iinc (v := (-8)) (lv' := [(2, .int (-8)), (3, .int x_38), (0, .ref m0), (1, .int p0)]) hx hb dX11_brings_43 hl (k := 1) rfl (by decide) (by decide) rfl (fun ls hl => ?_)
          refine lv_goto (tgt := 3) hx hb dX11_brings_46 (by decide) ?_
          refine lv_iload_n hx hb dX11_brings_3 rfl (lv_at hl 0 rfl) ?_
          refine lv_if_lt (tgt := 49) hx hb dX11_brings_4 (by decide) (fun _ => ?_) (fun c => absurd (by decide) c)
          have h24 : sp_by p0 24 = 1 := if_neg (by rw [← ex_1, ← ex_2]; exact c_3)
          have h16 : sp_by p0 16 = 0 := if_pos (by rw [← ex_7, ← ex_8]; exact c_9)
          have h8 : sp_by p0 8 = 1 := if_neg (by rw [← ex_31, ← ex_32]; exact c_33)
          have h0 : sp_by p0 0 = 1 := if_neg (by rw [← ex_37, ← ex_38]; exact c_39)
          have hc : sp_cnt p0 = 3 := by unfold sp_cnt; rw [h24, h16, h8, h0]
          have hP9 := hP.sub (ws' := [(m0, .inr (11, [.int 0, .ref m_tape, .int (nI (n + 3)), .int 0, .int 0, .ref m_read, .int 0, .int 0, .int 0, .ref m_tets, .int 0, .int 0, .int 0, .int 0, .int 0, .int 0, .int 0, .int 0, .ref m_primes, .ref m_often, .ref m_normal, .ref m_termM, .ref m_termP, .ref m_termV, .ref m_sumFrom, .ref m_sumMany, .int 0, .int 0, .int 0, .int 0, .ref m_part, .ref m_fair, .ref m_heap, .ref m_pickTet, .ref m_pickEdge, .ref m_base, .ref m_baseM, .ref m_baseP, .ref m_rowsOf, .int 0, .ref m_grid, .ref m_times, .ref m_boxes, .ref m_cameFrom, .ref m_cameBy, .ref m_steps, .ref m_sides, .int 0, .int (-1), .ref m_next, .ref m_cube, .ref m_ways])), (m_tape, .inl (cB, 600, (.inl fb_41)))]) [0, 1] rfl
          have hD9 := hD.sub (ws' := [(m0, .inr (11, [.int 0, .ref m_tape, .int (nI (n + 3)), .int 0, .int 0, .ref m_read, .int 0, .int 0, .int 0, .ref m_tets, .int 0, .int 0, .int 0, .int 0, .int 0, .int 0, .int 0, .int 0, .ref m_primes, .ref m_often, .ref m_normal, .ref m_termM, .ref m_termP, .ref m_termV, .ref m_sumFrom, .ref m_sumMany, .int 0, .int 0, .int 0, .int 0, .ref m_part, .ref m_fair, .ref m_heap, .ref m_pickTet, .ref m_pickEdge, .ref m_base, .ref m_baseM, .ref m_baseP, .ref m_rowsOf, .int 0, .ref m_grid, .ref m_times, .ref m_boxes, .ref m_cameFrom, .ref m_cameBy, .ref m_steps, .ref m_sides, .int 0, .int (-1), .ref m_next, .ref m_cube, .ref m_ways])), (m_tape, .inl (cB, 600, (.inl fb_41)))]) [0, 1] (by decide) rfl
          exact W.vret hx hb hr (fun t ht hW => ⟨⟨(), rfl, trivial, fb_41, by rw [ht, hc]; exact hP9, va_K.moved hW.alike hK, by rw [hc]; exact hD9⟩, hS.F ht⟩) hS.2.2 dX11_brings_49
        · refine lv_goto (tgt := 43) hx hb dX11_brings_19 (by decide) ?_
          refine lv_iinc (v := (-8)) (lv' := [(2, .int (-8)), (3, .int x_38), (0, .ref m0), (1, .int p0)]) hx hb dX11_brings_43 hl (k := 1) rfl (by decide) (by decide) rfl (fun ls hl => ?_)
          refine lv_goto (tgt := 3) hx hb dX11_brings_46 (by decide) ?_
          refine lv_iload_n hx hb dX11_brings_3 rfl (lv_at hl 0 rfl) ?_
          refine lv_if_lt (tgt := 49) hx hb dX11_brings_4 (by decide) (fun _ => ?_) (fun c => absurd (by decide) c)
          have h24 : sp_by p0 24 = 1 := if_neg (by rw [← ex_1, ← ex_2]; exact c_3)
          have h16 : sp_by p0 16 = 0 := if_pos (by rw [← ex_7, ← ex_8]; exact c_9)
          have h8 : sp_by p0 8 = 1 := if_neg (by rw [← ex_31, ← ex_32]; exact c_33)
          have h0 : sp_by p0 0 = 0 := if_pos (by rw [← ex_37, ← ex_38]; exact c_39)
          have hc : sp_cnt p0 = 2 := by unfold sp_cnt; rw [h24, h16, h8, h0]
          have hP9 := hP.sub (ws' := [(m0, .inr (11, [.int 0, .ref m_tape, .int (nI (n + 2)), .int 0, .int 0, .ref m_read, .int 0, .int 0, .int 0, .ref m_tets, .int 0, .int 0, .int 0, .int 0, .int 0, .int 0, .int 0, .int 0, .ref m_primes, .ref m_often, .ref m_normal, .ref m_termM, .ref m_termP, .ref m_termV, .ref m_sumFrom, .ref m_sumMany, .int 0, .int 0, .int 0, .int 0, .ref m_part, .ref m_fair, .ref m_heap, .ref m_pickTet, .ref m_pickEdge, .ref m_base, .ref m_baseM, .ref m_baseP, .ref m_rowsOf, .int 0, .ref m_grid, .ref m_times, .ref m_boxes, .ref m_cameFrom, .ref m_cameBy, .ref m_steps, .ref m_sides, .int 0, .int (-1), .ref m_next, .ref m_cube, .ref m_ways])), (m_tape, .inl (cB, 600, (.inl fb_35)))]) [0, 1] rfl
          have hD9 := hD.sub (ws' := [(m0, .inr (11, [.int 0, .ref m_tape, .int (nI (n + 2)), .int 0, .int 0, .ref m_read, .int 0, .int 0, .int 0, .ref m_tets, .int 0, .int 0, .int 0, .int 0, .int 0, .int 0, .int 0, .int 0, .ref m_primes, .ref m_often, .ref m_normal, .ref m_termM, .ref m_termP, .ref m_termV, .ref m_sumFrom, .ref m_sumMany, .int 0, .int 0, .int 0, .int 0, .ref m_part, .ref m_fair, .ref m_heap, .ref m_pickTet, .ref m_pickEdge, .ref m_base, .ref m_baseM, .ref m_baseP, .ref m_rowsOf, .int 0, .ref m_grid, .ref m_times, .ref m_boxes, .ref m_cameFrom, .ref m_cameBy, .ref m_steps, .ref m_sides, .int 0, .int (-1), .ref m_next, .ref m_cube, .ref m_ways])), (m_tape, .inl (cB, 600, (.inl fb_35)))]) [0, 1] (by decide) rfl
          exact W.vret hx hb hr (fun t ht hW => ⟨⟨(), rfl, trivial, fb_35, by rw [ht, hc]; exact hP9, va_K.moved hW.alike hK, by rw [hc]; exact hD9⟩, hS.F ht⟩) hS.2.2 dX11_brings_49
      · refine lv_goto (tgt := 43) hx hb dX11_brings_19 (by decide) ?_
        refine lv_iinc (v := 0) (lv' := [(2, .int 0), (3, .int x_32), (0, .ref m0), (1, .int p0)]) hx hb dX11_brings_43 hl (k := 1) rfl (by decide) (by decide) rfl (fun ls hl => ?_)
        refine lv_goto (tgt := 3) hx hb dX11_brings_46 (by decide) ?_
        refine lv_iload_n hx hb dX11_brings_3 rfl (lv_at hl 0 rfl) ?_
        refine lv_if_lt (tgt := 49) hx hb dX11_brings_4 (by decide) (fun c => absurd c (by decide)) (fun _ => ?_)
        refine lv_iload_n hx hb dX11_brings_7 rfl (lv_at hl 3 rfl) ?_
        refine lv_iload_n hx hb dX11_brings_8 rfl (lv_at hl 0 rfl) ?_
        refine lv_ishr hx hb dX11_brings_9 ?_
        refine lv_topi (fun x_43 ex_43 => ?_)
        refine lv_sipush (v := 255) hx hb dX11_brings_10 (by decide) ?_
        refine lv_iand hx hb dX11_brings_13 ?_
        refine lv_topi (fun x_44 ex_44 => ?_)
        refine lv_istore_n (lv' := [(3, .int x_44), (2, .int 0), (0, .ref m0), (1, .int p0)]) hx hb dX11_brings_14 rfl hl (by decide) rfl (fun ls hl => ?_)
        refine lv_iload_n hx hb dX11_brings_15 rfl (lv_at hl 0 rfl) ?_
        refine lv_if_ne (tgt := 22) hx hb dX11_brings_16 (by decide) (fun c_45 => ?_) (fun c_45 => ?_)
        · refine lv_aload_n hx hb dX11_brings_22 rfl (lv_at hl 2 rfl) ?_
          refine va_get (D := (dC, dI)) (ci := 11) (v := .ref m_tape) (C := RX11) (T := TX11) (N := 52) hx hb hts hiX11 hown hK hP 0 rfl rfl 1 (by decide) (hts (.fieldLink RX11 9 "ScissorsTableModel" "tape" "[B") (by decide +kernel)) (fun _ h9 => h9) rfl dX11_brings_23 ?_
          refine lv_aload_n hx hb dX11_brings_26 rfl (lv_at hl 2 rfl) ?_
          refine va_get (D := (dC, dI)) (ci := 11) (v := .int (nI (n + 1))) (C := RX11) (T := TX11) (N := 52) hx hb hts hiX11 hown hK hP 0 rfl rfl 2 (by decide) (hts (.fieldLink RX11 109 "ScissorsTableModel" "length" "I") (by decide +kernel)) (fun _ h9 => h9) rfl dX11_brings_27 ?_
          refine lv_iload_n hx hb dX11_brings_30 rfl (lv_at hl 0 rfl) ?_
          refine lv_i2b hx hb dX11_brings_31 rfl ?_
          refine lv_topi (fun x_46 ex_46 => ?_)
          refine va_bast hx hb hK hP hD hS 1 0 rfl rfl (vp_in_nI (by omega) (by decide)) dX11_brings_32 (fun H locs hP hD hS => ?_)
          generalize upd fb_5 (nI (n + 1)).toNatClampNeg (vp_nar .byte x_46) = fb_47 at hP hD
          have hP : va_P (dC, dI) vwCl [(m0, .inr (11, [.int 0, .ref m_tape, .int (nI (n + 1)), .int 0, .int 0, .ref m_read, .int 0, .int 0, .int 0, .ref m_tets, .int 0, .int 0, .int 0, .int 0, .int 0, .int 0, .int 0, .int 0, .ref m_primes, .ref m_often, .ref m_normal, .ref m_termM, .ref m_termP, .ref m_termV, .ref m_sumFrom, .ref m_sumMany, .int 0, .int 0, .int 0, .int 0, .ref m_part, .ref m_fair, .ref m_heap, .ref m_pickTet, .ref m_pickEdge, .ref m_base, .ref m_baseM, .ref m_baseP, .ref m_rowsOf, .int 0, .ref m_grid, .ref m_times, .ref m_boxes, .ref m_cameFrom, .ref m_cameBy, .ref m_steps, .ref m_sides, .int 0, .int (-1), .ref m_next, .ref m_cube, .ref m_ways])), (m_tape, .inl (cB, 600, (.inl fb_47)))] H := hP
          have hD : va_D A [(m0, .inr (11, [.int 0, .ref m_tape, .int (nI (n + 1)), .int 0, .int 0, .ref m_read, .int 0, .int 0, .int 0, .ref m_tets, .int 0, .int 0, .int 0, .int 0, .int 0, .int 0, .int 0, .int 0, .ref m_primes, .ref m_often, .ref m_normal, .ref m_termM, .ref m_termP, .ref m_termV, .ref m_sumFrom, .ref m_sumMany, .int 0, .int 0, .int 0, .int 0, .ref m_part, .ref m_fair, .ref m_heap, .ref m_pickTet, .ref m_pickEdge, .ref m_base, .ref m_baseM, .ref m_baseP, .ref m_rowsOf, .int 0, .ref m_grid, .ref m_times, .ref m_boxes, .ref m_cameFrom, .ref m_cameBy, .ref m_steps, .ref m_sides, .int 0, .int (-1), .ref m_next, .ref m_cube, .ref m_ways])), (m_tape, .inl (cB, 600, (.inl fb_47)))] := hD
          refine lv_aload_n hx hb dX11_brings_33 rfl (lv_at hl 2 rfl) ?_
          refine lv_dup hx hb dX11_brings_34 rfl ?_
          refine va_get (D := (dC, dI)) (ci := 11) (v := .int (nI (n + 1))) (C := RX11) (T := TX11) (N := 52) hx hb hts hiX11 hown hK hP 0 rfl rfl 2 (by decide) (hts (.fieldLink RX11 109 "ScissorsTableModel" "length" "I") (by decide +kernel)) (fun _ h9 => h9) rfl dX11_brings_35 ?_
          refine lv_iconst (v := 1) hx hb dX11_brings_38 (by decide) ?_
          refine lv_iadd hx hb dX11_brings_39 ?_
          refine lv_topi (fun x_48 ex_48 => ?_)
          obtain rfl : x_48 = nI ((n + 1) + 1) := ex_48.trans (nI_add ((n + 1)) 1)
          refine va_put (D := (dC, dI)) (ci := 11) (v := .int (nI ((n + 1) + 1))) (ty := .int) (C := RX11) (T := TX11) (N := 52) hx hb hts hiX11 tyX11 tyX11_ok nmX11 hown hK hP hD hS 0 rfl rfl 2 (by decide) (hts (.fieldLink RX11 109 "ScissorsTableModel" "length" "I") (by decide +kernel)) (fun _ h9 => h9) rfl (by decide +kernel) rfl rfl (Nat.le_of_ble_eq_true rfl) dX11_brings_40 (fun H locs hP hD hS => ?_)
          have hP : va_P (dC, dI) vwCl [(m0, .inr (11, [.int 0, .ref m_tape, .int (nI ((n + 1) + 1)), .int 0, .int 0, .ref m_read, .int 0, .int 0, .int 0, .ref m_tets, .int 0, .int 0, .int 0, .int 0, .int 0, .int 0, .int 0, .int 0, .ref m_primes, .ref m_often, .ref m_normal, .ref m_termM, .ref m_termP, .ref m_termV, .ref m_sumFrom, .ref m_sumMany, .int 0, .int 0, .int 0, .int 0, .ref m_part, .ref m_fair, .ref m_heap, .ref m_pickTet, .ref m_pickEdge, .ref m_base, .ref m_baseM, .ref m_baseP, .ref m_rowsOf, .int 0, .ref m_grid, .ref m_times, .ref m_boxes, .ref m_cameFrom, .ref m_cameBy, .ref m_steps, .ref m_sides, .int 0, .int (-1), .ref m_next, .ref m_cube, .ref m_ways])), (m_tape, .inl (cB, 600, (.inl fb_47)))] H := hP
          have hD : va_D A [(m0, .inr (11, [.int 0, .ref m_tape, .int (nI ((n + 1) + 1)), .int 0, .int 0, .ref m_read, .int 0, .int 0, .int 0, .ref m_tets, .int 0, .int 0, .int 0, .int 0, .int 0, .int 0, .int 0, .int 0, .ref m_primes, .ref m_often, .ref m_normal, .ref m_termM, .ref m_termP, .ref m_termV, .ref m_sumFrom, .ref m_sumMany, .int 0, .int 0, .int 0, .int 0, .ref m_part, .ref m_fair, .ref m_heap, .ref m_pickTet, .ref m_pickEdge, .ref m_base, .ref m_baseM, .ref m_baseP, .ref m_rowsOf, .int 0, .ref m_grid, .ref m_times, .ref m_boxes, .ref m_cameFrom, .ref m_cameBy, .ref m_steps, .ref m_sides, .int 0, .int (-1), .ref m_next, .ref m_cube, .ref m_ways])), (m_tape, .inl (cB, 600, (.inl fb_47)))] := hD
          refine lv_iinc (v := (-8)) (lv' := [(2, .int (-8)), (3, .int x_44), (0, .ref m0), (1, .int p0)]) hx hb dX11_brings_43 hl (k := 1) rfl (by decide) (by decide) rfl (fun ls hl => ?_)
          refine lv_goto (tgt := 3) hx hb dX11_brings_46 (by decide) ?_
          refine lv_iload_n hx hb dX11_brings_3 rfl (lv_at hl 0 rfl) ?_
          refine lv_if_lt (tgt := 49) hx hb dX11_brings_4 (by decide) (fun _ => ?_) (fun c => absurd (by decide) c)
          have h24 : sp_by p0 24 = 1 := if_neg (by rw [← ex_1, ← ex_2]; exact c_3)
          have h16 : sp_by p0 16 = 0 := if_pos (by rw [← ex_7, ← ex_8]; exact c_9)
          have h8 : sp_by p0 8 = 0 := if_pos (by rw [← ex_31, ← ex_32]; exact c_33)
          have h0 : sp_by p0 0 = 1 := if_neg (by rw [← ex_43, ← ex_44]; exact c_45)
          have hc : sp_cnt p0 = 2 := by unfold sp_cnt; rw [h24, h16, h8, h0]
          have hP9 := hP.sub (ws' := [(m0, .inr (11, [.int 0, .ref m_tape, .int (nI (n + 2)), .int 0, .int 0, .ref m_read, .int 0, .int 0, .int 0, .ref m_tets, .int 0, .int 0, .int 0, .int 0, .int 0, .int 0, .int 0, .int 0, .ref m_primes, .ref m_often, .ref m_normal, .ref m_termM, .ref m_termP, .ref m_termV, .ref m_sumFrom, .ref m_sumMany, .int 0, .int 0, .int 0, .int 0, .ref m_part, .ref m_fair, .ref m_heap, .ref m_pickTet, .ref m_pickEdge, .ref m_base, .ref m_baseM, .ref m_baseP, .ref m_rowsOf, .int 0, .ref m_grid, .ref m_times, .ref m_boxes, .ref m_cameFrom, .ref m_cameBy, .ref m_steps, .ref m_sides, .int 0, .int (-1), .ref m_next, .ref m_cube, .ref m_ways])), (m_tape, .inl (cB, 600, (.inl fb_47)))]) [0, 1] rfl
          have hD9 := hD.sub (ws' := [(m0, .inr (11, [.int 0, .ref m_tape, .int (nI (n + 2)), .int 0, .int 0, .ref m_read, .int 0, .int 0, .int 0, .ref m_tets, .int 0, .int 0, .int 0, .int 0, .int 0, .int 0, .int 0, .int 0, .ref m_primes, .ref m_often, .ref m_normal, .ref m_termM, .ref m_termP, .ref m_termV, .ref m_sumFrom, .ref m_sumMany, .int 0, .int 0, .int 0, .int 0, .ref m_part, .ref m_fair, .ref m_heap, .ref m_pickTet, .ref m_pickEdge, .ref m_base, .ref m_baseM, .ref m_baseP, .ref m_rowsOf, .int 0, .ref m_grid, .ref m_times, .ref m_boxes, .ref m_cameFrom, .ref m_cameBy, .ref m_steps, .ref m_sides, .int 0, .int (-1), .ref m_next, .ref m_cube, .ref m_ways])), (m_tape, .inl (cB, 600, (.inl fb_47)))]) [0, 1] (by decide) rfl
          exact W.vret hx hb hr (fun t ht hW => ⟨⟨(), rfl, trivial, fb_47, by rw [ht, hc]; exact hP9, va_K.moved hW.alike hK, by rw [hc]; exact hD9⟩, hS.F ht⟩) hS.2.2 dX11_brings_49
        · refine lv_goto (tgt := 43) hx hb dX11_brings_19 (by decide) ?_
          refine lv_iinc (v := (-8)) (lv' := [(2, .int (-8)), (3, .int x_44), (0, .ref m0), (1, .int p0)]) hx hb dX11_brings_43 hl (k := 1) rfl (by decide) (by decide) rfl (fun ls hl => ?_)
          refine lv_goto (tgt := 3) hx hb dX11_brings_46 (by decide) ?_
          refine lv_iload_n hx hb dX11_brings_3 rfl (lv_at hl 0 rfl) ?_
          refine lv_if_lt (tgt := 49) hx hb dX11_brings_4 (by decide) (fun _ => ?_) (fun c => absurd (by decide) c)
          have h24 : sp_by p0 24 = 1 := if_neg (by rw [← ex_1, ← ex_2]; exact c_3)
          have h16 : sp_by p0 16 = 0 := if_pos (by rw [← ex_7, ← ex_8]; exact c_9)
          have h8 : sp_by p0 8 = 0 := if_pos (by rw [← ex_31, ← ex_32]; exact c_33)
          have h0 : sp_by p0 0 = 0 := if_pos (by rw [← ex_43, ← ex_44]; exact c_45)
          have hc : sp_cnt p0 = 1 := by unfold sp_cnt; rw [h24, h16, h8, h0]
          have hP9 := hP.sub (ws' := [(m0, .inr (11, [.int 0, .ref m_tape, .int (nI (n + 1)), .int 0, .int 0, .ref m_read, .int 0, .int 0, .int 0, .ref m_tets, .int 0, .int 0, .int 0, .int 0, .int 0, .int 0, .int 0, .int 0, .ref m_primes, .ref m_often, .ref m_normal, .ref m_termM, .ref m_termP, .ref m_termV, .ref m_sumFrom, .ref m_sumMany, .int 0, .int 0, .int 0, .int 0, .ref m_part, .ref m_fair, .ref m_heap, .ref m_pickTet, .ref m_pickEdge, .ref m_base, .ref m_baseM, .ref m_baseP, .ref m_rowsOf, .int 0, .ref m_grid, .ref m_times, .ref m_boxes, .ref m_cameFrom, .ref m_cameBy, .ref m_steps, .ref m_sides, .int 0, .int (-1), .ref m_next, .ref m_cube, .ref m_ways])), (m_tape, .inl (cB, 600, (.inl fb_5)))]) [0, 1] rfl
          have hD9 := hD.sub (ws' := [(m0, .inr (11, [.int 0, .ref m_tape, .int (nI (n + 1)), .int 0, .int 0, .ref m_read, .int 0, .int 0, .int 0, .ref m_tets, .int 0, .int 0, .int 0, .int 0, .int 0, .int 0, .int 0, .int 0, .ref m_primes, .ref m_often, .ref m_normal, .ref m_termM, .ref m_termP, .ref m_termV, .ref m_sumFrom, .ref m_sumMany, .int 0, .int 0, .int 0, .int 0, .ref m_part, .ref m_fair, .ref m_heap, .ref m_pickTet, .ref m_pickEdge, .ref m_base, .ref m_baseM, .ref m_baseP, .ref m_rowsOf, .int 0, .ref m_grid, .ref m_times, .ref m_boxes, .ref m_cameFrom, .ref m_cameBy, .ref m_steps, .ref m_sides, .int 0, .int (-1), .ref m_next, .ref m_cube, .ref m_ways])), (m_tape, .inl (cB, 600, (.inl fb_5)))]) [0, 1] (by decide) rfl
          exact W.vret hx hb hr (fun t ht hW => ⟨⟨(), rfl, trivial, fb_5, by rw [ht, hc]; exact hP9, va_K.moved hW.alike hK, by rw [hc]; exact hD9⟩, hS.F ht⟩) hS.2.2 dX11_brings_49
  · refine lv_goto (tgt := 43) hx hb dX11_brings_19 (by decide) ?_
    refine lv_iinc (v := 16) (lv' := [(2, .int 16), (3, .int x_2), (0, .ref m0), (1, .int p0)]) hx hb dX11_brings_43 hl (k := 1) rfl (by decide) (by decide) rfl (fun ls hl => ?_)
    refine lv_goto (tgt := 3) hx hb dX11_brings_46 (by decide) ?_
    refine lv_iload_n hx hb dX11_brings_3 rfl (lv_at hl 0 rfl) ?_
    refine lv_if_lt (tgt := 49) hx hb dX11_brings_4 (by decide) (fun c => absurd c (by decide)) (fun _ => ?_)
    refine lv_iload_n hx hb dX11_brings_7 rfl (lv_at hl 3 rfl) ?_
    refine lv_iload_n hx hb dX11_brings_8 rfl (lv_at hl 0 rfl) ?_
    refine lv_ishr hx hb dX11_brings_9 ?_
    refine lv_topi (fun x_49 ex_49 => ?_)
    refine lv_sipush (v := 255) hx hb dX11_brings_10 (by decide) ?_
    refine lv_iand hx hb dX11_brings_13 ?_
    refine lv_topi (fun x_50 ex_50 => ?_)
    refine lv_istore_n (lv' := [(3, .int x_50), (2, .int 16), (0, .ref m0), (1, .int p0)]) hx hb dX11_brings_14 rfl hl (by decide) rfl (fun ls hl => ?_)
    refine lv_iload_n hx hb dX11_brings_15 rfl (lv_at hl 0 rfl) ?_
    refine lv_if_ne (tgt := 22) hx hb dX11_brings_16 (by decide) (fun c_51 => ?_) (fun c_51 => ?_)
    · refine lv_aload_n hx hb dX11_brings_22 rfl (lv_at hl 2 rfl) ?_
      refine va_get (D := (dC, dI)) (ci := 11) (v := .ref m_tape) (C := RX11) (T := TX11) (N := 52) hx hb hts hiX11 hown hK hP 0 rfl rfl 1 (by decide) (hts (.fieldLink RX11 9 "ScissorsTableModel" "tape" "[B") (by decide +kernel)) (fun _ h9 => h9) rfl dX11_brings_23 ?_
      refine lv_aload_n hx hb dX11_brings_26 rfl (lv_at hl 2 rfl) ?_
      refine va_get (D := (dC, dI)) (ci := 11) (v := .int (nI n)) (C := RX11) (T := TX11) (N := 52) hx hb hts hiX11 hown hK hP 0 rfl rfl 2 (by decide) (hts (.fieldLink RX11 109 "ScissorsTableModel" "length" "I") (by decide +kernel)) (fun _ h9 => h9) rfl dX11_brings_27 ?_
      refine lv_iload_n hx hb dX11_brings_30 rfl (lv_at hl 0 rfl) ?_
      refine lv_i2b hx hb dX11_brings_31 rfl ?_
      refine lv_topi (fun x_52 ex_52 => ?_)
      refine va_bast hx hb hK hP hD hS 1 0 rfl rfl (vp_in_nI (by omega) (by decide)) dX11_brings_32 (fun H locs hP hD hS => ?_)
      generalize upd fb (nI n).toNatClampNeg (vp_nar .byte x_52) = fb_53 at hP hD
      have hP : va_P (dC, dI) vwCl [(m0, .inr (11, [.int 0, .ref m_tape, .int (nI n), .int 0, .int 0, .ref m_read, .int 0, .int 0, .int 0, .ref m_tets, .int 0, .int 0, .int 0, .int 0, .int 0, .int 0, .int 0, .int 0, .ref m_primes, .ref m_often, .ref m_normal, .ref m_termM, .ref m_termP, .ref m_termV, .ref m_sumFrom, .ref m_sumMany, .int 0, .int 0, .int 0, .int 0, .ref m_part, .ref m_fair, .ref m_heap, .ref m_pickTet, .ref m_pickEdge, .ref m_base, .ref m_baseM, .ref m_baseP, .ref m_rowsOf, .int 0, .ref m_grid, .ref m_times, .ref m_boxes, .ref m_cameFrom, .ref m_cameBy, .ref m_steps, .ref m_sides, .int 0, .int (-1), .ref m_next, .ref m_cube, .ref m_ways])), (m_tape, .inl (cB, 600, (.inl fb_53)))] H := hP
      have hD : va_D A [(m0, .inr (11, [.int 0, .ref m_tape, .int (nI n), .int 0, .int 0, .ref m_read, .int 0, .int 0, .int 0, .ref m_tets, .int 0, .int 0, .int 0, .int 0, .int 0, .int 0, .int 0, .int 0, .ref m_primes, .ref m_often, .ref m_normal, .ref m_termM, .ref m_termP, .ref m_termV, .ref m_sumFrom, .ref m_sumMany, .int 0, .int 0, .int 0, .int 0, .ref m_part, .ref m_fair, .ref m_heap, .ref m_pickTet, .ref m_pickEdge, .ref m_base, .ref m_baseM, .ref m_baseP, .ref m_rowsOf, .int 0, .ref m_grid, .ref m_times, .ref m_boxes, .ref m_cameFrom, .ref m_cameBy, .ref m_steps, .ref m_sides, .int 0, .int (-1), .ref m_next, .ref m_cube, .ref m_ways])), (m_tape, .inl (cB, 600, (.inl fb_53)))] := hD
      refine lv_aload_n hx hb dX11_brings_33 rfl (lv_at hl 2 rfl) ?_
      refine lv_dup hx hb dX11_brings_34 rfl ?_
      refine va_get (D := (dC, dI)) (ci := 11) (v := .int (nI n)) (C := RX11) (T := TX11) (N := 52) hx hb hts hiX11 hown hK hP 0 rfl rfl 2 (by decide) (hts (.fieldLink RX11 109 "ScissorsTableModel" "length" "I") (by decide +kernel)) (fun _ h9 => h9) rfl dX11_brings_35 ?_
      refine lv_iconst (v := 1) hx hb dX11_brings_38 (by decide) ?_
      refine lv_iadd hx hb dX11_brings_39 ?_
      refine lv_topi (fun x_54 ex_54 => ?_)
      obtain rfl : x_54 = nI (n + 1) := ex_54.trans (nI_add n 1)
      refine va_put (D := (dC, dI)) (ci := 11) (v := .int (nI (n + 1))) (ty := .int) (C := RX11) (T := TX11) (N := 52) hx hb hts hiX11 tyX11 tyX11_ok nmX11 hown hK hP hD hS 0 rfl rfl 2 (by decide) (hts (.fieldLink RX11 109 "ScissorsTableModel" "length" "I") (by decide +kernel)) (fun _ h9 => h9) rfl (by decide +kernel) rfl rfl (Nat.le_of_ble_eq_true rfl) dX11_brings_40 (fun H locs hP hD hS => ?_)
      have hP : va_P (dC, dI) vwCl [(m0, .inr (11, [.int 0, .ref m_tape, .int (nI (n + 1)), .int 0, .int 0, .ref m_read, .int 0, .int 0, .int 0, .ref m_tets, .int 0, .int 0, .int 0, .int 0, .int 0, .int 0, .int 0, .int 0, .ref m_primes, .ref m_often, .ref m_normal, .ref m_termM, .ref m_termP, .ref m_termV, .ref m_sumFrom, .ref m_sumMany, .int 0, .int 0, .int 0, .int 0, .ref m_part, .ref m_fair, .ref m_heap, .ref m_pickTet, .ref m_pickEdge, .ref m_base, .ref m_baseM, .ref m_baseP, .ref m_rowsOf, .int 0, .ref m_grid, .ref m_times, .ref m_boxes, .ref m_cameFrom, .ref m_cameBy, .ref m_steps, .ref m_sides, .int 0, .int (-1), .ref m_next, .ref m_cube, .ref m_ways])), (m_tape, .inl (cB, 600, (.inl fb_53)))] H := hP
      have hD : va_D A [(m0, .inr (11, [.int 0, .ref m_tape, .int (nI (n + 1)), .int 0, .int 0, .ref m_read, .int 0, .int 0, .int 0, .ref m_tets, .int 0, .int 0, .int 0, .int 0, .int 0, .int 0, .int 0, .int 0, .ref m_primes, .ref m_often, .ref m_normal, .ref m_termM, .ref m_termP, .ref m_termV, .ref m_sumFrom, .ref m_sumMany, .int 0, .int 0, .int 0, .int 0, .ref m_part, .ref m_fair, .ref m_heap, .ref m_pickTet, .ref m_pickEdge, .ref m_base, .ref m_baseM, .ref m_baseP, .ref m_rowsOf, .int 0, .ref m_grid, .ref m_times, .ref m_boxes, .ref m_cameFrom, .ref m_cameBy, .ref m_steps, .ref m_sides, .int 0, .int (-1), .ref m_next, .ref m_cube, .ref m_ways])), (m_tape, .inl (cB, 600, (.inl fb_53)))] := hD
      refine lv_iinc (v := 8) (lv' := [(2, .int 8), (3, .int x_50), (0, .ref m0), (1, .int p0)]) hx hb dX11_brings_43 hl (k := 1) rfl (by decide) (by decide) rfl (fun ls hl => ?_)
      refine lv_goto (tgt := 3) hx hb dX11_brings_46 (by decide) ?_
      refine lv_iload_n hx hb dX11_brings_3 rfl (lv_at hl 0 rfl) ?_
      refine lv_if_lt (tgt := 49) hx hb dX11_brings_4 (by decide) (fun c => absurd c (by decide)) (fun _ => ?_)
      refine lv_iload_n hx hb dX11_brings_7 rfl (lv_at hl 3 rfl) ?_
      refine lv_iload_n hx hb dX11_brings_8 rfl (lv_at hl 0 rfl) ?_
      refine lv_ishr hx hb dX11_brings_9 ?_
      refine lv_topi (fun x_55 ex_55 => ?_)
      refine lv_sipush (v := 255) hx hb dX11_brings_10 (by decide) ?_
      refine lv_iand hx hb dX11_brings_13 ?_
      refine lv_topi (fun x_56 ex_56 => ?_)
      refine lv_istore_n (lv' := [(3, .int x_56), (2, .int 8), (0, .ref m0), (1, .int p0)]) hx hb dX11_brings_14 rfl hl (by decide) rfl (fun ls hl => ?_)
      refine lv_iload_n hx hb dX11_brings_15 rfl (lv_at hl 0 rfl) ?_
      refine lv_if_ne (tgt := 22) hx hb dX11_brings_16 (by decide) (fun c_57 => ?_) (fun c_57 => ?_)
      · refine lv_aload_n hx hb dX11_brings_22 rfl (lv_at hl 2 rfl) ?_
        refine va_get (D := (dC, dI)) (ci := 11) (v := .ref m_tape) (C := RX11) (T := TX11) (N := 52) hx hb hts hiX11 hown hK hP 0 rfl rfl 1 (by decide) (hts (.fieldLink RX11 9 "ScissorsTableModel" "tape" "[B") (by decide +kernel)) (fun _ h9 => h9) rfl dX11_brings_23 ?_
        refine lv_aload_n hx hb dX11_brings_26 rfl (lv_at hl 2 rfl) ?_
        refine va_get (D := (dC, dI)) (ci := 11) (v := .int (nI (n + 1))) (C := RX11) (T := TX11) (N := 52) hx hb hts hiX11 hown hK hP 0 rfl rfl 2 (by decide) (hts (.fieldLink RX11 109 "ScissorsTableModel" "length" "I") (by decide +kernel)) (fun _ h9 => h9) rfl dX11_brings_27 ?_
        refine lv_iload_n hx hb dX11_brings_30 rfl (lv_at hl 0 rfl) ?_
        refine lv_i2b hx hb dX11_brings_31 rfl ?_
        refine lv_topi (fun x_58 ex_58 => ?_)
        refine va_bast hx hb hK hP hD hS 1 0 rfl rfl (vp_in_nI (by omega) (by decide)) dX11_brings_32 (fun H locs hP hD hS => ?_)
        generalize upd fb_53 (nI (n + 1)).toNatClampNeg (vp_nar .byte x_58) = fb_59 at hP hD
        have hP : va_P (dC, dI) vwCl [(m0, .inr (11, [.int 0, .ref m_tape, .int (nI (n + 1)), .int 0, .int 0, .ref m_read, .int 0, .int 0, .int 0, .ref m_tets, .int 0, .int 0, .int 0, .int 0, .int 0, .int 0, .int 0, .int 0, .ref m_primes, .ref m_often, .ref m_normal, .ref m_termM, .ref m_termP, .ref m_termV, .ref m_sumFrom, .ref m_sumMany, .int 0, .int 0, .int 0, .int 0, .ref m_part, .ref m_fair, .ref m_heap, .ref m_pickTet, .ref m_pickEdge, .ref m_base, .ref m_baseM, .ref m_baseP, .ref m_rowsOf, .int 0, .ref m_grid, .ref m_times, .ref m_boxes, .ref m_cameFrom, .ref m_cameBy, .ref m_steps, .ref m_sides, .int 0, .int (-1), .ref m_next, .ref m_cube, .ref m_ways])), (m_tape, .inl (cB, 600, (.inl fb_59)))] H := hP
        have hD : va_D A [(m0, .inr (11, [.int 0, .ref m_tape, .int (nI (n + 1)), .int 0, .int 0, .ref m_read, .int 0, .int 0, .int 0, .ref m_tets, .int 0, .int 0, .int 0, .int 0, .int 0, .int 0, .int 0, .int 0, .ref m_primes, .ref m_often, .ref m_normal, .ref m_termM, .ref m_termP, .ref m_termV, .ref m_sumFrom, .ref m_sumMany, .int 0, .int 0, .int 0, .int 0, .ref m_part, .ref m_fair, .ref m_heap, .ref m_pickTet, .ref m_pickEdge, .ref m_base, .ref m_baseM, .ref m_baseP, .ref m_rowsOf, .int 0, .ref m_grid, .ref m_times, .ref m_boxes, .ref m_cameFrom, .ref m_cameBy, .ref m_steps, .ref m_sides, .int 0, .int (-1), .ref m_next, .ref m_cube, .ref m_ways])), (m_tape, .inl (cB, 600, (.inl fb_59)))] := hD
        refine lv_aload_n hx hb dX11_brings_33 rfl (lv_at hl 2 rfl) ?_
        refine lv_dup hx hb dX11_brings_34 rfl ?_
        refine va_get (D := (dC, dI)) (ci := 11) (v := .int (nI (n + 1))) (C := RX11) (T := TX11) (N := 52) hx hb hts hiX11 hown hK hP 0 rfl rfl 2 (by decide) (hts (.fieldLink RX11 109 "ScissorsTableModel" "length" "I") (by decide +kernel)) (fun _ h9 => h9) rfl dX11_brings_35 ?_
        refine lv_iconst (v := 1) hx hb dX11_brings_38 (by decide) ?_
        refine lv_iadd hx hb dX11_brings_39 ?_
        refine lv_topi (fun x_60 ex_60 => ?_)
        obtain rfl : x_60 = nI ((n + 1) + 1) := ex_60.trans (nI_add ((n + 1)) 1)
        refine va_put (D := (dC, dI)) (ci := 11) (v := .int (nI ((n + 1) + 1))) (ty := .int) (C := RX11) (T := TX11) (N := 52) hx hb hts hiX11 tyX11 tyX11_ok nmX11 hown hK hP hD hS 0 rfl rfl 2 (by decide) (hts (.fieldLink RX11 109 "ScissorsTableModel" "length" "I") (by decide +kernel)) (fun _ h9 => h9) rfl (by decide +kernel) rfl rfl (Nat.le_of_ble_eq_true rfl) dX11_brings_40 (fun H locs hP hD hS => ?_)
        have hP : va_P (dC, dI) vwCl [(m0, .inr (11, [.int 0, .ref m_tape, .int (nI ((n + 1) + 1)), .int 0, .int 0, .ref m_read, .int 0, .int 0, .int 0, .ref m_tets, .int 0, .int 0, .int 0, .int 0, .int 0, .int 0, .int 0, .int 0, .ref m_primes, .ref m_often, .ref m_normal, .ref m_termM, .ref m_termP, .ref m_termV, .ref m_sumFrom, .ref m_sumMany, .int 0, .int 0, .int 0, .int 0, .ref m_part, .ref m_fair, .ref m_heap, .ref m_pickTet, .ref m_pickEdge, .ref m_base, .ref m_baseM, .ref m_baseP, .ref m_rowsOf, .int 0, .ref m_grid, .ref m_times, .ref m_boxes, .ref m_cameFrom, .ref m_cameBy, .ref m_steps, .ref m_sides, .int 0, .int (-1), .ref m_next, .ref m_cube, .ref m_ways])), (m_tape, .inl (cB, 600, (.inl fb_59)))] H := hP
        have hD : va_D A [(m0, .inr (11, [.int 0, .ref m_tape, .int (nI ((n + 1) + 1)), .int 0, .int 0, .ref m_read, .int 0, .int 0, .int 0, .ref m_tets, .int 0, .int 0, .int 0, .int 0, .int 0, .int 0, .int 0, .int 0, .ref m_primes, .ref m_often, .ref m_normal, .ref m_termM, .ref m_termP, .ref m_termV, .ref m_sumFrom, .ref m_sumMany, .int 0, .int 0, .int 0, .int 0, .ref m_part, .ref m_fair, .ref m_heap, .ref m_pickTet, .ref m_pickEdge, .ref m_base, .ref m_baseM, .ref m_baseP, .ref m_rowsOf, .int 0, .ref m_grid, .ref m_times, .ref m_boxes, .ref m_cameFrom, .ref m_cameBy, .ref m_steps, .ref m_sides, .int 0, .int (-1), .ref m_next, .ref m_cube, .ref m_ways])), (m_tape, .inl (cB, 600, (.inl fb_59)))] := hD
        refine lv_iinc (v := 0) (lv' := [(2, .int 0), (3, .int x_56), (0, .ref m0), (1, .int p0)]) hx hb dX11_brings_43 hl (k := 1) rfl (by decide) (by decide) rfl (fun ls hl => ?_)
        refine lv_goto (tgt := 3) hx hb dX11_brings_46 (by decide) ?_
        refine lv_iload_n hx hb dX11_brings_3 rfl (lv_at hl 0 rfl) ?_
        refine lv_if_lt (tgt := 49) hx hb dX11_brings_4 (by decide) (fun c => absurd c (by decide)) (fun _ => ?_)
        refine lv_iload_n hx hb dX11_brings_7 rfl (lv_at hl 3 rfl) ?_
        refine lv_iload_n hx hb dX11_brings_8 rfl (lv_at hl 0 rfl) ?_
        refine lv_ishr hx hb dX11_brings_9 ?_
        refine lv_topi (fun x_61 ex_61 => ?_)
        refine lv_sipush (v := 255) hx hb dX11_brings_10 (by decide) ?_
        refine lv_iand hx hb dX11_brings_13 ?_
        refine lv_topi (fun x_62 ex_62 => ?_)
        refine lv_istore_n (lv' := [(3, .int x_62), (2, .int 0), (0, .ref m0), (1, .int p0)]) hx hb dX11_brings_14 rfl hl (by decide) rfl (fun ls hl => ?_)
        refine lv_iload_n hx hb dX11_brings_15 rfl (lv_at hl 0 rfl) ?_
        refine lv_if_ne (tgt := 22) hx hb dX11_brings_16 (by decide) (fun c_63 => ?_) (fun c_63 => ?_)
        · refine lv_aload_n hx hb dX11_brings_22 rfl (lv_at hl 2 rfl) ?_
          refine va_get (D := (dC, dI)) (ci := 11) (v := .ref m_tape) (C := RX11) (T := TX11) (N := 52) hx hb hts hiX11 hown hK hP 0 rfl rfl 1 (by decide) (hts (.fieldLink RX11 9 "ScissorsTableModel" "tape" "[B") (by decide +kernel)) (fun _ h9 => h9) rfl dX11_brings_23 ?_
          refine lv_aload_n hx hb dX11_brings_26 rfl (lv_at hl 2 rfl) ?_
          refine va_get (D := (dC, dI)) (ci := 11) (v := .int (nI ((n + 1) + 1))) (C := RX11) (T := TX11) (N := 52) hx hb hts hiX11 hown hK hP 0 rfl rfl 2 (by decide) (hts (.fieldLink RX11 109 "ScissorsTableModel" "length" "I") (by decide +kernel)) (fun _ h9 => h9) rfl dX11_brings_27 ?_
          refine lv_iload_n hx hb dX11_brings_30 rfl (lv_at hl 0 rfl) ?_
          refine lv_i2b hx hb dX11_brings_31 rfl ?_
          refine lv_topi (fun x_64 ex_64 => ?_)
          refine va_bast hx hb hK hP hD hS 1 0 rfl rfl (vp_in_nI (by omega) (by decide)) dX11_brings_32 (fun H locs hP hD hS => ?_)
          generalize upd fb_59 (nI ((n + 1) + 1)).toNatClampNeg (vp_nar .byte x_64) = fb_65 at hP hD
          have hP : va_P (dC, dI) vwCl [(m0, .inr (11, [.int 0, .ref m_tape, .int (nI ((n + 1) + 1)), .int 0, .int 0, .ref m_read, .int 0, .int 0, .int 0, .ref m_tets, .int 0, .int 0, .int 0, .int 0, .int 0, .int 0, .int 0, .int 0, .ref m_primes, .ref m_often, .ref m_normal, .ref m_termM, .ref m_termP, .ref m_termV, .ref m_sumFrom, .ref m_sumMany, .int 0, .int 0, .int 0, .int 0, .ref m_part, .ref m_fair, .ref m_heap, .ref m_pickTet, .ref m_pickEdge, .ref m_base, .ref m_baseM, .ref m_baseP, .ref m_rowsOf, .int 0, .ref m_grid, .ref m_times, .ref m_boxes, .ref m_cameFrom, .ref m_cameBy, .ref m_steps, .ref m_sides, .int 0, .int (-1), .ref m_next, .ref m_cube, .ref m_ways])), (m_tape, .inl (cB, 600, (.inl fb_65)))] H := hP
          have hD : va_D A [(m0, .inr (11, [.int 0, .ref m_tape, .int (nI ((n + 1) + 1)), .int 0, .int 0, .ref m_read, .int 0, .int 0, .int 0, .ref m_tets, .int 0, .int 0, .int 0, .int 0, .int 0, .int 0, .int 0, .int 0, .ref m_primes, .ref m_often, .ref m_normal, .ref m_termM, .ref m_termP, .ref m_termV, .ref m_sumFrom, .ref m_sumMany, .int 0, .int 0, .int 0, .int 0, .ref m_part, .ref m_fair, .ref m_heap, .ref m_pickTet, .ref m_pickEdge, .ref m_base, .ref m_baseM, .ref m_baseP, .ref m_rowsOf, .int 0, .ref m_grid, .ref m_times, .ref m_boxes, .ref m_cameFrom, .ref m_cameBy, .ref m_steps, .ref m_sides, .int 0, .int (-1), .ref m_next, .ref m_cube, .ref m_ways])), (m_tape, .inl (cB, 600, (.inl fb_65)))] := hD
          refine lv_aload_n hx hb dX11_brings_33 rfl (lv_at hl 2 rfl) ?_
          refine lv_dup hx hb dX11_brings_34 rfl ?_
          refine va_get (D := (dC, dI)) (ci := 11) (v := .int (nI ((n + 1) + 1))) (C := RX11) (T := TX11) (N := 52) hx hb hts hiX11 hown hK hP 0 rfl rfl 2 (by decide) (hts (.fieldLink RX11 109 "ScissorsTableModel" "length" "I") (by decide +kernel)) (fun _ h9 => h9) rfl dX11_brings_35 ?_
          refine lv_iconst (v := 1) hx hb dX11_brings_38 (by decide) ?_
          refine lv_iadd hx hb dX11_brings_39 ?_
          refine lv_topi (fun x_66 ex_66 => ?_)
          obtain rfl : x_66 = nI (((n + 1) + 1) + 1) := ex_66.trans (nI_add (((n + 1) + 1)) 1)
          refine va_put (D := (dC, dI)) (ci := 11) (v := .int (nI (((n + 1) + 1) + 1))) (ty := .int) (C := RX11) (T := TX11) (N := 52) hx hb hts hiX11 tyX11 tyX11_ok nmX11 hown hK hP hD hS 0 rfl rfl 2 (by decide) (hts (.fieldLink RX11 109 "ScissorsTableModel" "length" "I") (by decide +kernel)) (fun _ h9 => h9) rfl (by decide +kernel) rfl rfl (Nat.le_of_ble_eq_true rfl) dX11_brings_40 (fun H locs hP hD hS => ?_)
          have hP : va_P (dC, dI) vwCl [(m0, .inr (11, [.int 0, .ref m_tape, .int (nI (((n + 1) + 1) + 1)), .int 0, .int 0, .ref m_read, .int 0, .int 0, .int 0, .ref m_tets, .int 0, .int 0, .int 0, .int 0, .int 0, .int 0, .int 0, .int 0, .ref m_primes, .ref m_often, .ref m_normal, .ref m_termM, .ref m_termP, .ref m_termV, .ref m_sumFrom, .ref m_sumMany, .int 0, .int 0, .int 0, .int 0, .ref m_part, .ref m_fair, .ref m_heap, .ref m_pickTet, .ref m_pickEdge, .ref m_base, .ref m_baseM, .ref m_baseP, .ref m_rowsOf, .int 0, .ref m_grid, .ref m_times, .ref m_boxes, .ref m_cameFrom, .ref m_cameBy, .ref m_steps, .ref m_sides, .int 0, .int (-1), .ref m_next, .ref m_cube, .ref m_ways])), (m_tape, .inl (cB, 600, (.inl fb_65)))] H := hP
          have hD : va_D A [(m0, .inr (11, [.int 0, .ref m_tape, .int (nI (((n + 1) + 1) + 1)), .int 0, .int 0, .ref m_read, .int 0, .int 0, .int 0, .ref m_tets, .int 0, .int 0, .int 0, .int 0, .int 0, .int 0, .int 0, .int 0, .ref m_primes, .ref m_often, .ref m_normal, .ref m_termM, .ref m_termP, .ref m_termV, .ref m_sumFrom, .ref m_sumMany, .int 0, .int 0, .int 0, .int 0, .ref m_part, .ref m_fair, .ref m_heap, .ref m_pickTet, .ref m_pickEdge, .ref m_base, .ref m_baseM, .ref m_baseP, .ref m_rowsOf, .int 0, .ref m_grid, .ref m_times, .ref m_boxes, .ref m_cameFrom, .ref m_cameBy, .ref m_steps, .ref m_sides, .int 0, .int (-1), .ref m_next, .ref m_cube, .ref m_ways])), (m_tape, .inl (cB, 600, (.inl fb_65)))] := hD
          refine lv_iinc (v := (-8)) (lv' := [(2, .int (-8)), (3, .int x_62), (0, .ref m0), (1, .int p0)]) hx hb dX11_brings_43 hl (k := 1) rfl (by decide) (by decide) rfl (fun ls hl => ?_)
          refine lv_goto (tgt := 3) hx hb dX11_brings_46 (by decide) ?_
          refine lv_iload_n hx hb dX11_brings_3 rfl (lv_at hl 0 rfl) ?_
          refine lv_if_lt (tgt := 49) hx hb dX11_brings_4 (by decide) (fun _ => ?_) (fun c => absurd (by decide) c)
          have h24 : sp_by p0 24 = 0 := if_pos (by rw [← ex_1, ← ex_2]; exact c_3)
          have h16 : sp_by p0 16 = 1 := if_neg (by rw [← ex_49, ← ex_50]; exact c_51)
          have h8 : sp_by p0 8 = 1 := if_neg (by rw [← ex_55, ← ex_56]; exact c_57)
          have h0 : sp_by p0 0 = 1 := if_neg (by rw [← ex_61, ← ex_62]; exact c_63)
          have hc : sp_cnt p0 = 3 := by unfold sp_cnt; rw [h24, h16, h8, h0]
          have hP9 := hP.sub (ws' := [(m0, .inr (11, [.int 0, .ref m_tape, .int (nI (n + 3)), .int 0, .int 0, .ref m_read, .int 0, .int 0, .int 0, .ref m_tets, .int 0, .int 0, .int 0, .int 0, .int 0, .int 0, .int 0, .int 0, .ref m_primes, .ref m_often, .ref m_normal, .ref m_termM, .ref m_termP, .ref m_termV, .ref m_sumFrom, .ref m_sumMany, .int 0, .int 0, .int 0, .int 0, .ref m_part, .ref m_fair, .ref m_heap, .ref m_pickTet, .ref m_pickEdge, .ref m_base, .ref m_baseM, .ref m_baseP, .ref m_rowsOf, .int 0, .ref m_grid, .ref m_times, .ref m_boxes, .ref m_cameFrom, .ref m_cameBy, .ref m_steps, .ref m_sides, .int 0, .int (-1), .ref m_next, .ref m_cube, .ref m_ways])), (m_tape, .inl (cB, 600, (.inl fb_65)))]) [0, 1] rfl
          have hD9 := hD.sub (ws' := [(m0, .inr (11, [.int 0, .ref m_tape, .int (nI (n + 3)), .int 0, .int 0, .ref m_read, .int 0, .int 0, .int 0, .ref m_tets, .int 0, .int 0, .int 0, .int 0, .int 0, .int 0, .int 0, .int 0, .ref m_primes, .ref m_often, .ref m_normal, .ref m_termM, .ref m_termP, .ref m_termV, .ref m_sumFrom, .ref m_sumMany, .int 0, .int 0, .int 0, .int 0, .ref m_part, .ref m_fair, .ref m_heap, .ref m_pickTet, .ref m_pickEdge, .ref m_base, .ref m_baseM, .ref m_baseP, .ref m_rowsOf, .int 0, .ref m_grid, .ref m_times, .ref m_boxes, .ref m_cameFrom, .ref m_cameBy, .ref m_steps, .ref m_sides, .int 0, .int (-1), .ref m_next, .ref m_cube, .ref m_ways])), (m_tape, .inl (cB, 600, (.inl fb_65)))]) [0, 1] (by decide) rfl
          exact W.vret hx hb hr (fun t ht hW => ⟨⟨(), rfl, trivial, fb_65, by rw [ht, hc]; exact hP9, va_K.moved hW.alike hK, by rw [hc]; exact hD9⟩, hS.F ht⟩) hS.2.2 dX11_brings_49
        · refine lv_goto (tgt := 43) hx hb dX11_brings_19 (by decide) ?_
          refine lv_iinc (v := (-8)) (lv' := [(2, .int (-8)), (3, .int x_62), (0, .ref m0), (1, .int p0)]) hx hb dX11_brings_43 hl (k := 1) rfl (by decide) (by decide) rfl (fun ls hl => ?_)
          refine lv_goto (tgt := 3) hx hb dX11_brings_46 (by decide) ?_
          refine lv_iload_n hx hb dX11_brings_3 rfl (lv_at hl 0 rfl) ?_
          refine lv_if_lt (tgt := 49) hx hb dX11_brings_4 (by decide) (fun _ => ?_) (fun c => absurd (by decide) c)
          have h24 : sp_by p0 24 = 0 := if_pos (by rw [← ex_1, ← ex_2]; exact c_3)
          have h16 : sp_by p0 16 = 1 := if_neg (by rw [← ex_49, ← ex_50]; exact c_51)
          have h8 : sp_by p0 8 = 1 := if_neg (by rw [← ex_55, ← ex_56]; exact c_57)
          have h0 : sp_by p0 0 = 0 := if_pos (by rw [← ex_61, ← ex_62]; exact c_63)
          have hc : sp_cnt p0 = 2 := by unfold sp_cnt; rw [h24, h16, h8, h0]
          have hP9 := hP.sub (ws' := [(m0, .inr (11, [.int 0, .ref m_tape, .int (nI (n + 2)), .int 0, .int 0, .ref m_read, .int 0, .int 0, .int 0, .ref m_tets, .int 0, .int 0, .int 0, .int 0, .int 0, .int 0, .int 0, .int 0, .ref m_primes, .ref m_often, .ref m_normal, .ref m_termM, .ref m_termP, .ref m_termV, .ref m_sumFrom, .ref m_sumMany, .int 0, .int 0, .int 0, .int 0, .ref m_part, .ref m_fair, .ref m_heap, .ref m_pickTet, .ref m_pickEdge, .ref m_base, .ref m_baseM, .ref m_baseP, .ref m_rowsOf, .int 0, .ref m_grid, .ref m_times, .ref m_boxes, .ref m_cameFrom, .ref m_cameBy, .ref m_steps, .ref m_sides, .int 0, .int (-1), .ref m_next, .ref m_cube, .ref m_ways])), (m_tape, .inl (cB, 600, (.inl fb_59)))]) [0, 1] rfl
          have hD9 := hD.sub (ws' := [(m0, .inr (11, [.int 0, .ref m_tape, .int (nI (n + 2)), .int 0, .int 0, .ref m_read, .int 0, .int 0, .int 0, .ref m_tets, .int 0, .int 0, .int 0, .int 0, .int 0, .int 0, .int 0, .int 0, .ref m_primes, .ref m_often, .ref m_normal, .ref m_termM, .ref m_termP, .ref m_termV, .ref m_sumFrom, .ref m_sumMany, .int 0, .int 0, .int 0, .int 0, .ref m_part, .ref m_fair, .ref m_heap, .ref m_pickTet, .ref m_pickEdge, .ref m_base, .ref m_baseM, .ref m_baseP, .ref m_rowsOf, .int 0, .ref m_grid, .ref m_times, .ref m_boxes, .ref m_cameFrom, .ref m_cameBy, .ref m_steps, .ref m_sides, .int 0, .int (-1), .ref m_next, .ref m_cube, .ref m_ways])), (m_tape, .inl (cB, 600, (.inl fb_59)))]) [0, 1] (by decide) rfl
          exact W.vret hx hb hr (fun t ht hW => ⟨⟨(), rfl, trivial, fb_59, by rw [ht, hc]; exact hP9, va_K.moved hW.alike hK, by rw [hc]; exact hD9⟩, hS.F ht⟩) hS.2.2 dX11_brings_49
      · refine lv_goto (tgt := 43) hx hb dX11_brings_19 (by decide) ?_
        refine lv_iinc (v := 0) (lv' := [(2, .int 0), (3, .int x_56), (0, .ref m0), (1, .int p0)]) hx hb dX11_brings_43 hl (k := 1) rfl (by decide) (by decide) rfl (fun ls hl => ?_)
        refine lv_goto (tgt := 3) hx hb dX11_brings_46 (by decide) ?_
        refine lv_iload_n hx hb dX11_brings_3 rfl (lv_at hl 0 rfl) ?_
        refine lv_if_lt (tgt := 49) hx hb dX11_brings_4 (by decide) (fun c => absurd c (by decide)) (fun _ => ?_)
        refine lv_iload_n hx hb dX11_brings_7 rfl (lv_at hl 3 rfl) ?_
        refine lv_iload_n hx hb dX11_brings_8 rfl (lv_at hl 0 rfl) ?_
        refine lv_ishr hx hb dX11_brings_9 ?_
        refine lv_topi (fun x_67 ex_67 => ?_)
        refine lv_sipush (v := 255) hx hb dX11_brings_10 (by decide) ?_
        refine lv_iand hx hb dX11_brings_13 ?_
        refine lv_topi (fun x_68 ex_68 => ?_)
        refine lv_istore_n (lv' := [(3, .int x_68), (2, .int 0), (0, .ref m0), (1, .int p0)]) hx hb dX11_brings_14 rfl hl (by decide) rfl (fun ls hl => ?_)
        refine lv_iload_n hx hb dX11_brings_15 rfl (lv_at hl 0 rfl) ?_
        refine lv_if_ne (tgt := 22) hx hb dX11_brings_16 (by decide) (fun c_69 => ?_) (fun c_69 => ?_)
        · refine lv_aload_n hx hb dX11_brings_22 rfl (lv_at hl 2 rfl) ?_
          refine va_get (D := (dC, dI)) (ci := 11) (v := .ref m_tape) (C := RX11) (T := TX11) (N := 52) hx hb hts hiX11 hown hK hP 0 rfl rfl 1 (by decide) (hts (.fieldLink RX11 9 "ScissorsTableModel" "tape" "[B") (by decide +kernel)) (fun _ h9 => h9) rfl dX11_brings_23 ?_
          refine lv_aload_n hx hb dX11_brings_26 rfl (lv_at hl 2 rfl) ?_
          refine va_get (D := (dC, dI)) (ci := 11) (v := .int (nI (n + 1))) (C := RX11) (T := TX11) (N := 52) hx hb hts hiX11 hown hK hP 0 rfl rfl 2 (by decide) (hts (.fieldLink RX11 109 "ScissorsTableModel" "length" "I") (by decide +kernel)) (fun _ h9 => h9) rfl dX11_brings_27 ?_
          refine lv_iload_n hx hb dX11_brings_30 rfl (lv_at hl 0 rfl) ?_
          refine lv_i2b hx hb dX11_brings_31 rfl ?_
          refine lv_topi (fun x_70 ex_70 => ?_)
          refine va_bast hx hb hK hP hD hS 1 0 rfl rfl (vp_in_nI (by omega) (by decide)) dX11_brings_32 (fun H locs hP hD hS => ?_)
          generalize upd fb_53 (nI (n + 1)).toNatClampNeg (vp_nar .byte x_70) = fb_71 at hP hD
          have hP : va_P (dC, dI) vwCl [(m0, .inr (11, [.int 0, .ref m_tape, .int (nI (n + 1)), .int 0, .int 0, .ref m_read, .int 0, .int 0, .int 0, .ref m_tets, .int 0, .int 0, .int 0, .int 0, .int 0, .int 0, .int 0, .int 0, .ref m_primes, .ref m_often, .ref m_normal, .ref m_termM, .ref m_termP, .ref m_termV, .ref m_sumFrom, .ref m_sumMany, .int 0, .int 0, .int 0, .int 0, .ref m_part, .ref m_fair, .ref m_heap, .ref m_pickTet, .ref m_pickEdge, .ref m_base, .ref m_baseM, .ref m_baseP, .ref m_rowsOf, .int 0, .ref m_grid, .ref m_times, .ref m_boxes, .ref m_cameFrom, .ref m_cameBy, .ref m_steps, .ref m_sides, .int 0, .int (-1), .ref m_next, .ref m_cube, .ref m_ways])), (m_tape, .inl (cB, 600, (.inl fb_71)))] H := hP
          have hD : va_D A [(m0, .inr (11, [.int 0, .ref m_tape, .int (nI (n + 1)), .int 0, .int 0, .ref m_read, .int 0, .int 0, .int 0, .ref m_tets, .int 0, .int 0, .int 0, .int 0, .int 0, .int 0, .int 0, .int 0, .ref m_primes, .ref m_often, .ref m_normal, .ref m_termM, .ref m_termP, .ref m_termV, .ref m_sumFrom, .ref m_sumMany, .int 0, .int 0, .int 0, .int 0, .ref m_part, .ref m_fair, .ref m_heap, .ref m_pickTet, .ref m_pickEdge, .ref m_base, .ref m_baseM, .ref m_baseP, .ref m_rowsOf, .int 0, .ref m_grid, .ref m_times, .ref m_boxes, .ref m_cameFrom, .ref m_cameBy, .ref m_steps, .ref m_sides, .int 0, .int (-1), .ref m_next, .ref m_cube, .ref m_ways])), (m_tape, .inl (cB, 600, (.inl fb_71)))] := hD
          refine lv_aload_n hx hb dX11_brings_33 rfl (lv_at hl 2 rfl) ?_
          refine lv_dup hx hb dX11_brings_34 rfl ?_
          refine va_get (D := (dC, dI)) (ci := 11) (v := .int (nI (n + 1))) (C := RX11) (T := TX11) (N := 52) hx hb hts hiX11 hown hK hP 0 rfl rfl 2 (by decide) (hts (.fieldLink RX11 109 "ScissorsTableModel" "length" "I") (by decide +kernel)) (fun _ h9 => h9) rfl dX11_brings_35 ?_
          refine lv_iconst (v := 1) hx hb dX11_brings_38 (by decide) ?_
          refine lv_iadd hx hb dX11_brings_39 ?_
          refine lv_topi (fun x_72 ex_72 => ?_)
          obtain rfl : x_72 = nI ((n + 1) + 1) := ex_72.trans (nI_add ((n + 1)) 1)
          refine va_put (D := (dC, dI)) (ci := 11) (v := .int (nI ((n + 1) + 1))) (ty := .int) (C := RX11) (T := TX11) (N := 52) hx hb hts hiX11 tyX11 tyX11_ok nmX11 hown hK hP hD hS 0 rfl rfl 2 (by decide) (hts (.fieldLink RX11 109 "ScissorsTableModel" "length" "I") (by decide +kernel)) (fun _ h9 => h9) rfl (by decide +kernel) rfl rfl (Nat.le_of_ble_eq_true rfl) dX11_brings_40 (fun H locs hP hD hS => ?_)
          have hP : va_P (dC, dI) vwCl [(m0, .inr (11, [.int 0, .ref m_tape, .int (nI ((n + 1) + 1)), .int 0, .int 0, .ref m_read, .int 0, .int 0, .int 0, .ref m_tets, .int 0, .int 0, .int 0, .int 0, .int 0, .int 0, .int 0, .int 0, .ref m_primes, .ref m_often, .ref m_normal, .ref m_termM, .ref m_termP, .ref m_termV, .ref m_sumFrom, .ref m_sumMany, .int 0, .int 0, .int 0, .int 0, .ref m_part, .ref m_fair, .ref m_heap, .ref m_pickTet, .ref m_pickEdge, .ref m_base, .ref m_baseM, .ref m_baseP, .ref m_rowsOf, .int 0, .ref m_grid, .ref m_times, .ref m_boxes, .ref m_cameFrom, .ref m_cameBy, .ref m_steps, .ref m_sides, .int 0, .int (-1), .ref m_next, .ref m_cube, .ref m_ways])), (m_tape, .inl (cB, 600, (.inl fb_71)))] H := hP
          have hD : va_D A [(m0, .inr (11, [.int 0, .ref m_tape, .int (nI ((n + 1) + 1)), .int 0, .int 0, .ref m_read, .int 0, .int 0, .int 0, .ref m_tets, .int 0, .int 0, .int 0, .int 0, .int 0, .int 0, .int 0, .int 0, .ref m_primes, .ref m_often, .ref m_normal, .ref m_termM, .ref m_termP, .ref m_termV, .ref m_sumFrom, .ref m_sumMany, .int 0, .int 0, .int 0, .int 0, .ref m_part, .ref m_fair, .ref m_heap, .ref m_pickTet, .ref m_pickEdge, .ref m_base, .ref m_baseM, .ref m_baseP, .ref m_rowsOf, .int 0, .ref m_grid, .ref m_times, .ref m_boxes, .ref m_cameFrom, .ref m_cameBy, .ref m_steps, .ref m_sides, .int 0, .int (-1), .ref m_next, .ref m_cube, .ref m_ways])), (m_tape, .inl (cB, 600, (.inl fb_71)))] := hD
          refine lv_iinc (v := (-8)) (lv' := [(2, .int (-8)), (3, .int x_68), (0, .ref m0), (1, .int p0)]) hx hb dX11_brings_43 hl (k := 1) rfl (by decide) (by decide) rfl (fun ls hl => ?_)
          refine lv_goto (tgt := 3) hx hb dX11_brings_46 (by decide) ?_
          refine lv_iload_n hx hb dX11_brings_3 rfl (lv_at hl 0 rfl) ?_
          refine lv_if_lt (tgt := 49) hx hb dX11_brings_4 (by decide) (fun _ => ?_) (fun c => absurd (by decide) c)
          have h24 : sp_by p0 24 = 0 := if_pos (by rw [← ex_1, ← ex_2]; exact c_3)
          have h16 : sp_by p0 16 = 1 := if_neg (by rw [← ex_49, ← ex_50]; exact c_51)
          have h8 : sp_by p0 8 = 0 := if_pos (by rw [← ex_55, ← ex_56]; exact c_57)
          have h0 : sp_by p0 0 = 1 := if_neg (by rw [← ex_67, ← ex_68]; exact c_69)
          have hc : sp_cnt p0 = 2 := by unfold sp_cnt; rw [h24, h16, h8, h0]
          have hP9 := hP.sub (ws' := [(m0, .inr (11, [.int 0, .ref m_tape, .int (nI (n + 2)), .int 0, .int 0, .ref m_read, .int 0, .int 0, .int 0, .ref m_tets, .int 0, .int 0, .int 0, .int 0, .int 0, .int 0, .int 0, .int 0, .ref m_primes, .ref m_often, .ref m_normal, .ref m_termM, .ref m_termP, .ref m_termV, .ref m_sumFrom, .ref m_sumMany, .int 0, .int 0, .int 0, .int 0, .ref m_part, .ref m_fair, .ref m_heap, .ref m_pickTet, .ref m_pickEdge, .ref m_base, .ref m_baseM, .ref m_baseP, .ref m_rowsOf, .int 0, .ref m_grid, .ref m_times, .ref m_boxes, .ref m_cameFrom, .ref m_cameBy, .ref m_steps, .ref m_sides, .int 0, .int (-1), .ref m_next, .ref m_cube, .ref m_ways])), (m_tape, .inl (cB, 600, (.inl fb_71)))]) [0, 1] rfl
          have hD9 := hD.sub (ws' := [(m0, .inr (11, [.int 0, .ref m_tape, .int (nI (n + 2)), .int 0, .int 0, .ref m_read, .int 0, .int 0, .int 0, .ref m_tets, .int 0, .int 0, .int 0, .int 0, .int 0, .int 0, .int 0, .int 0, .ref m_primes, .ref m_often, .ref m_normal, .ref m_termM, .ref m_termP, .ref m_termV, .ref m_sumFrom, .ref m_sumMany, .int 0, .int 0, .int 0, .int 0, .ref m_part, .ref m_fair, .ref m_heap, .ref m_pickTet, .ref m_pickEdge, .ref m_base, .ref m_baseM, .ref m_baseP, .ref m_rowsOf, .int 0, .ref m_grid, .ref m_times, .ref m_boxes, .ref m_cameFrom, .ref m_cameBy, .ref m_steps, .ref m_sides, .int 0, .int (-1), .ref m_next, .ref m_cube, .ref m_ways])), (m_tape, .inl (cB, 600, (.inl fb_71)))]) [0, 1] (by decide) rfl
          exact W.vret hx hb hr (fun t ht hW => ⟨⟨(), rfl, trivial, fb_71, by rw [ht, hc]; exact hP9, va_K.moved hW.alike hK, by rw [hc]; exact hD9⟩, hS.F ht⟩) hS.2.2 dX11_brings_49
        · refine lv_goto (tgt := 43) hx hb dX11_brings_19 (by decide) ?_
          refine lv_iinc (v := (-8)) (lv' := [(2, .int (-8)), (3, .int x_68), (0, .ref m0), (1, .int p0)]) hx hb dX11_brings_43 hl (k := 1) rfl (by decide) (by decide) rfl (fun ls hl => ?_)
          refine lv_goto (tgt := 3) hx hb dX11_brings_46 (by decide) ?_
          refine lv_iload_n hx hb dX11_brings_3 rfl (lv_at hl 0 rfl) ?_
          refine lv_if_lt (tgt := 49) hx hb dX11_brings_4 (by decide) (fun _ => ?_) (fun c => absurd (by decide) c)
          have h24 : sp_by p0 24 = 0 := if_pos (by rw [← ex_1, ← ex_2]; exact c_3)
          have h16 : sp_by p0 16 = 1 := if_neg (by rw [← ex_49, ← ex_50]; exact c_51)
          have h8 : sp_by p0 8 = 0 := if_pos (by rw [← ex_55, ← ex_56]; exact c_57)
          have h0 : sp_by p0 0 = 0 := if_pos (by rw [← ex_67, ← ex_68]; exact c_69)
          have hc : sp_cnt p0 = 1 := by unfold sp_cnt; rw [h24, h16, h8, h0]
          have hP9 := hP.sub (ws' := [(m0, .inr (11, [.int 0, .ref m_tape, .int (nI (n + 1)), .int 0, .int 0, .ref m_read, .int 0, .int 0, .int 0, .ref m_tets, .int 0, .int 0, .int 0, .int 0, .int 0, .int 0, .int 0, .int 0, .ref m_primes, .ref m_often, .ref m_normal, .ref m_termM, .ref m_termP, .ref m_termV, .ref m_sumFrom, .ref m_sumMany, .int 0, .int 0, .int 0, .int 0, .ref m_part, .ref m_fair, .ref m_heap, .ref m_pickTet, .ref m_pickEdge, .ref m_base, .ref m_baseM, .ref m_baseP, .ref m_rowsOf, .int 0, .ref m_grid, .ref m_times, .ref m_boxes, .ref m_cameFrom, .ref m_cameBy, .ref m_steps, .ref m_sides, .int 0, .int (-1), .ref m_next, .ref m_cube, .ref m_ways])), (m_tape, .inl (cB, 600, (.inl fb_53)))]) [0, 1] rfl
          have hD9 := hD.sub (ws' := [(m0, .inr (11, [.int 0, .ref m_tape, .int (nI (n + 1)), .int 0, .int 0, .ref m_read, .int 0, .int 0, .int 0, .ref m_tets, .int 0, .int 0, .int 0, .int 0, .int 0, .int 0, .int 0, .int 0, .ref m_primes, .ref m_often, .ref m_normal, .ref m_termM, .ref m_termP, .ref m_termV, .ref m_sumFrom, .ref m_sumMany, .int 0, .int 0, .int 0, .int 0, .ref m_part, .ref m_fair, .ref m_heap, .ref m_pickTet, .ref m_pickEdge, .ref m_base, .ref m_baseM, .ref m_baseP, .ref m_rowsOf, .int 0, .ref m_grid, .ref m_times, .ref m_boxes, .ref m_cameFrom, .ref m_cameBy, .ref m_steps, .ref m_sides, .int 0, .int (-1), .ref m_next, .ref m_cube, .ref m_ways])), (m_tape, .inl (cB, 600, (.inl fb_53)))]) [0, 1] (by decide) rfl
          exact W.vret hx hb hr (fun t ht hW => ⟨⟨(), rfl, trivial, fb_53, by rw [ht, hc]; exact hP9, va_K.moved hW.alike hK, by rw [hc]; exact hD9⟩, hS.F ht⟩) hS.2.2 dX11_brings_49
    · refine lv_goto (tgt := 43) hx hb dX11_brings_19 (by decide) ?_
      refine lv_iinc (v := 8) (lv' := [(2, .int 8), (3, .int x_50), (0, .ref m0), (1, .int p0)]) hx hb dX11_brings_43 hl (k := 1) rfl (by decide) (by decide) rfl (fun ls hl => ?_)
      refine lv_goto (tgt := 3) hx hb dX11_brings_46 (by decide) ?_
      refine lv_iload_n hx hb dX11_brings_3 rfl (lv_at hl 0 rfl) ?_
      refine lv_if_lt (tgt := 49) hx hb dX11_brings_4 (by decide) (fun c => absurd c (by decide)) (fun _ => ?_)
      refine lv_iload_n hx hb dX11_brings_7 rfl (lv_at hl 3 rfl) ?_
      refine lv_iload_n hx hb dX11_brings_8 rfl (lv_at hl 0 rfl) ?_
      refine lv_ishr hx hb dX11_brings_9 ?_
      refine lv_topi (fun x_73 ex_73 => ?_)
      refine lv_sipush (v := 255) hx hb dX11_brings_10 (by decide) ?_
      refine lv_iand hx hb dX11_brings_13 ?_
      refine lv_topi (fun x_74 ex_74 => ?_)
      refine lv_istore_n (lv' := [(3, .int x_74), (2, .int 8), (0, .ref m0), (1, .int p0)]) hx hb dX11_brings_14 rfl hl (by decide) rfl (fun ls hl => ?_)
      refine lv_iload_n hx hb dX11_brings_15 rfl (lv_at hl 0 rfl) ?_
      refine lv_if_ne (tgt := 22) hx hb dX11_brings_16 (by decide) (fun c_75 => ?_) (fun c_75 => ?_)
      · refine lv_aload_n hx hb dX11_brings_22 rfl (lv_at hl 2 rfl) ?_
        refine va_get (D := (dC, dI)) (ci := 11) (v := .ref m_tape) (C := RX11) (T := TX11) (N := 52) hx hb hts hiX11 hown hK hP 0 rfl rfl 1 (by decide) (hts (.fieldLink RX11 9 "ScissorsTableModel" "tape" "[B") (by decide +kernel)) (fun _ h9 => h9) rfl dX11_brings_23 ?_
        refine lv_aload_n hx hb dX11_brings_26 rfl (lv_at hl 2 rfl) ?_
        refine va_get (D := (dC, dI)) (ci := 11) (v := .int (nI n)) (C := RX11) (T := TX11) (N := 52) hx hb hts hiX11 hown hK hP 0 rfl rfl 2 (by decide) (hts (.fieldLink RX11 109 "ScissorsTableModel" "length" "I") (by decide +kernel)) (fun _ h9 => h9) rfl dX11_brings_27 ?_
        refine lv_iload_n hx hb dX11_brings_30 rfl (lv_at hl 0 rfl) ?_
        refine lv_i2b hx hb dX11_brings_31 rfl ?_
        refine lv_topi (fun x_76 ex_76 => ?_)
        refine va_bast hx hb hK hP hD hS 1 0 rfl rfl (vp_in_nI (by omega) (by decide)) dX11_brings_32 (fun H locs hP hD hS => ?_)
        generalize upd fb (nI n).toNatClampNeg (vp_nar .byte x_76) = fb_77 at hP hD
        have hP : va_P (dC, dI) vwCl [(m0, .inr (11, [.int 0, .ref m_tape, .int (nI n), .int 0, .int 0, .ref m_read, .int 0, .int 0, .int 0, .ref m_tets, .int 0, .int 0, .int 0, .int 0, .int 0, .int 0, .int 0, .int 0, .ref m_primes, .ref m_often, .ref m_normal, .ref m_termM, .ref m_termP, .ref m_termV, .ref m_sumFrom, .ref m_sumMany, .int 0, .int 0, .int 0, .int 0, .ref m_part, .ref m_fair, .ref m_heap, .ref m_pickTet, .ref m_pickEdge, .ref m_base, .ref m_baseM, .ref m_baseP, .ref m_rowsOf, .int 0, .ref m_grid, .ref m_times, .ref m_boxes, .ref m_cameFrom, .ref m_cameBy, .ref m_steps, .ref m_sides, .int 0, .int (-1), .ref m_next, .ref m_cube, .ref m_ways])), (m_tape, .inl (cB, 600, (.inl fb_77)))] H := hP
        have hD : va_D A [(m0, .inr (11, [.int 0, .ref m_tape, .int (nI n), .int 0, .int 0, .ref m_read, .int 0, .int 0, .int 0, .ref m_tets, .int 0, .int 0, .int 0, .int 0, .int 0, .int 0, .int 0, .int 0, .ref m_primes, .ref m_often, .ref m_normal, .ref m_termM, .ref m_termP, .ref m_termV, .ref m_sumFrom, .ref m_sumMany, .int 0, .int 0, .int 0, .int 0, .ref m_part, .ref m_fair, .ref m_heap, .ref m_pickTet, .ref m_pickEdge, .ref m_base, .ref m_baseM, .ref m_baseP, .ref m_rowsOf, .int 0, .ref m_grid, .ref m_times, .ref m_boxes, .ref m_cameFrom, .ref m_cameBy, .ref m_steps, .ref m_sides, .int 0, .int (-1), .ref m_next, .ref m_cube, .ref m_ways])), (m_tape, .inl (cB, 600, (.inl fb_77)))] := hD
        refine lv_aload_n hx hb dX11_brings_33 rfl (lv_at hl 2 rfl) ?_
        refine lv_dup hx hb dX11_brings_34 rfl ?_
        refine va_get (D := (dC, dI)) (ci := 11) (v := .int (nI n)) (C := RX11) (T := TX11) (N := 52) hx hb hts hiX11 hown hK hP 0 rfl rfl 2 (by decide) (hts (.fieldLink RX11 109 "ScissorsTableModel" "length" "I") (by decide +kernel)) (fun _ h9 => h9) rfl dX11_brings_35 ?_
        refine lv_iconst (v := 1) hx hb dX11_brings_38 (by decide) ?_
        refine lv_iadd hx hb dX11_brings_39 ?_
        refine lv_topi (fun x_78 ex_78 => ?_)
        obtain rfl : x_78 = nI (n + 1) := ex_78.trans (nI_add n 1)
        refine va_put (D := (dC, dI)) (ci := 11) (v := .int (nI (n + 1))) (ty := .int) (C := RX11) (T := TX11) (N := 52) hx hb hts hiX11 tyX11 tyX11_ok nmX11 hown hK hP hD hS 0 rfl rfl 2 (by decide) (hts (.fieldLink RX11 109 "ScissorsTableModel" "length" "I") (by decide +kernel)) (fun _ h9 => h9) rfl (by decide +kernel) rfl rfl (Nat.le_of_ble_eq_true rfl) dX11_brings_40 (fun H locs hP hD hS => ?_)
        have hP : va_P (dC, dI) vwCl [(m0, .inr (11, [.int 0, .ref m_tape, .int (nI (n + 1)), .int 0, .int 0, .ref m_read, .int 0, .int 0, .int 0, .ref m_tets, .int 0, .int 0, .int 0, .int 0, .int 0, .int 0, .int 0, .int 0, .ref m_primes, .ref m_often, .ref m_normal, .ref m_termM, .ref m_termP, .ref m_termV, .ref m_sumFrom, .ref m_sumMany, .int 0, .int 0, .int 0, .int 0, .ref m_part, .ref m_fair, .ref m_heap, .ref m_pickTet, .ref m_pickEdge, .ref m_base, .ref m_baseM, .ref m_baseP, .ref m_rowsOf, .int 0, .ref m_grid, .ref m_times, .ref m_boxes, .ref m_cameFrom, .ref m_cameBy, .ref m_steps, .ref m_sides, .int 0, .int (-1), .ref m_next, .ref m_cube, .ref m_ways])), (m_tape, .inl (cB, 600, (.inl fb_77)))] H := hP
        have hD : va_D A [(m0, .inr (11, [.int 0, .ref m_tape, .int (nI (n + 1)), .int 0, .int 0, .ref m_read, .int 0, .int 0, .int 0, .ref m_tets, .int 0, .int 0, .int 0, .int 0, .int 0, .int 0, .int 0, .int 0, .ref m_primes, .ref m_often, .ref m_normal, .ref m_termM, .ref m_termP, .ref m_termV, .ref m_sumFrom, .ref m_sumMany, .int 0, .int 0, .int 0, .int 0, .ref m_part, .ref m_fair, .ref m_heap, .ref m_pickTet, .ref m_pickEdge, .ref m_base, .ref m_baseM, .ref m_baseP, .ref m_rowsOf, .int 0, .ref m_grid, .ref m_times, .ref m_boxes, .ref m_cameFrom, .ref m_cameBy, .ref m_steps, .ref m_sides, .int 0, .int (-1), .ref m_next, .ref m_cube, .ref m_ways])), (m_tape, .inl (cB, 600, (.inl fb_77)))] := hD
        refine lv_iinc (v := 0) (lv' := [(2, .int 0), (3, .int x_74), (0, .ref m0), (1, .int p0)]) hx hb dX11_brings_43 hl (k := 1) rfl (by decide) (by decide) rfl (fun ls hl => ?_)
        refine lv_goto (tgt := 3) hx hb dX11_brings_46 (by decide) ?_
        refine lv_iload_n hx hb dX11_brings_3 rfl (lv_at hl 0 rfl) ?_
        refine lv_if_lt (tgt := 49) hx hb dX11_brings_4 (by decide) (fun c => absurd c (by decide)) (fun _ => ?_)
        refine lv_iload_n hx hb dX11_brings_7 rfl (lv_at hl 3 rfl) ?_
        refine lv_iload_n hx hb dX11_brings_8 rfl (lv_at hl 0 rfl) ?_
        refine lv_ishr hx hb dX11_brings_9 ?_
        refine lv_topi (fun x_79 ex_79 => ?_)
        refine lv_sipush (v := 255) hx hb dX11_brings_10 (by decide) ?_
        refine lv_iand hx hb dX11_brings_13 ?_
        refine lv_topi (fun x_80 ex_80 => ?_)
        refine lv_istore_n (lv' := [(3, .int x_80), (2, .int 0), (0, .ref m0), (1, .int p0)]) hx hb dX11_brings_14 rfl hl (by decide) rfl (fun ls hl => ?_)
        refine lv_iload_n hx hb dX11_brings_15 rfl (lv_at hl 0 rfl) ?_
        refine lv_if_ne (tgt := 22) hx hb dX11_brings_16 (by decide) (fun c_81 => ?_) (fun c_81 => ?_)
        · refine lv_aload_n hx hb dX11_brings_22 rfl (lv_at hl 2 rfl) ?_
          refine va_get (D := (dC, dI)) (ci := 11) (v := .ref m_tape) (C := RX11) (T := TX11) (N := 52) hx hb hts hiX11 hown hK hP 0 rfl rfl 1 (by decide) (hts (.fieldLink RX11 9 "ScissorsTableModel" "tape" "[B") (by decide +kernel)) (fun _ h9 => h9) rfl dX11_brings_23 ?_
          refine lv_aload_n hx hb dX11_brings_26 rfl (lv_at hl 2 rfl) ?_
          refine va_get (D := (dC, dI)) (ci := 11) (v := .int (nI (n + 1))) (C := RX11) (T := TX11) (N := 52) hx hb hts hiX11 hown hK hP 0 rfl rfl 2 (by decide) (hts (.fieldLink RX11 109 "ScissorsTableModel" "length" "I") (by decide +kernel)) (fun _ h9 => h9) rfl dX11_brings_27 ?_
          refine lv_iload_n hx hb dX11_brings_30 rfl (lv_at hl 0 rfl) ?_
          refine lv_i2b hx hb dX11_brings_31 rfl ?_
          refine lv_topi (fun x_82 ex_82 => ?_)
          refine va_bast hx hb hK hP hD hS 1 0 rfl rfl (vp_in_nI (by omega) (by decide)) dX11_brings_32 (fun H locs hP hD hS => ?_)
          generalize upd fb_77 (nI (n + 1)).toNatClampNeg (vp_nar .byte x_82) = fb_83 at hP hD
          have hP : va_P (dC, dI) vwCl [(m0, .inr (11, [.int 0, .ref m_tape, .int (nI (n + 1)), .int 0, .int 0, .ref m_read, .int 0, .int 0, .int 0, .ref m_tets, .int 0, .int 0, .int 0, .int 0, .int 0, .int 0, .int 0, .int 0, .ref m_primes, .ref m_often, .ref m_normal, .ref m_termM, .ref m_termP, .ref m_termV, .ref m_sumFrom, .ref m_sumMany, .int 0, .int 0, .int 0, .int 0, .ref m_part, .ref m_fair, .ref m_heap, .ref m_pickTet, .ref m_pickEdge, .ref m_base, .ref m_baseM, .ref m_baseP, .ref m_rowsOf, .int 0, .ref m_grid, .ref m_times, .ref m_boxes, .ref m_cameFrom, .ref m_cameBy, .ref m_steps, .ref m_sides, .int 0, .int (-1), .ref m_next, .ref m_cube, .ref m_ways])), (m_tape, .inl (cB, 600, (.inl fb_83)))] H := hP
          have hD : va_D A [(m0, .inr (11, [.int 0, .ref m_tape, .int (nI (n + 1)), .int 0, .int 0, .ref m_read, .int 0, .int 0, .int 0, .ref m_tets, .int 0, .int 0, .int 0, .int 0, .int 0, .int 0, .int 0, .int 0, .ref m_primes, .ref m_often, .ref m_normal, .ref m_termM, .ref m_termP, .ref m_termV, .ref m_sumFrom, .ref m_sumMany, .int 0, .int 0, .int 0, .int 0, .ref m_part, .ref m_fair, .ref m_heap, .ref m_pickTet, .ref m_pickEdge, .ref m_base, .ref m_baseM, .ref m_baseP, .ref m_rowsOf, .int 0, .ref m_grid, .ref m_times, .ref m_boxes, .ref m_cameFrom, .ref m_cameBy, .ref m_steps, .ref m_sides, .int 0, .int (-1), .ref m_next, .ref m_cube, .ref m_ways])), (m_tape, .inl (cB, 600, (.inl fb_83)))] := hD
          refine lv_aload_n hx hb dX11_brings_33 rfl (lv_at hl 2 rfl) ?_
          refine lv_dup hx hb dX11_brings_34 rfl ?_
          refine va_get (D := (dC, dI)) (ci := 11) (v := .int (nI (n + 1))) (C := RX11) (T := TX11) (N := 52) hx hb hts hiX11 hown hK hP 0 rfl rfl 2 (by decide) (hts (.fieldLink RX11 109 "ScissorsTableModel" "length" "I") (by decide +kernel)) (fun _ h9 => h9) rfl dX11_brings_35 ?_
          refine lv_iconst (v := 1) hx hb dX11_brings_38 (by decide) ?_
          refine lv_iadd hx hb dX11_brings_39 ?_
          refine lv_topi (fun x_84 ex_84 => ?_)
          obtain rfl : x_84 = nI ((n + 1) + 1) := ex_84.trans (nI_add ((n + 1)) 1)
          refine va_put (D := (dC, dI)) (ci := 11) (v := .int (nI ((n + 1) + 1))) (ty := .int) (C := RX11) (T := TX11) (N := 52) hx hb hts hiX11 tyX11 tyX11_ok nmX11 hown hK hP hD hS 0 rfl rfl 2 (by decide) (hts (.fieldLink RX11 109 "ScissorsTableModel" "length" "I") (by decide +kernel)) (fun _ h9 => h9) rfl (by decide +kernel) rfl rfl (Nat.le_of_ble_eq_true rfl) dX11_brings_40 (fun H locs hP hD hS => ?_)
          have hP : va_P (dC, dI) vwCl [(m0, .inr (11, [.int 0, .ref m_tape, .int (nI ((n + 1) + 1)), .int 0, .int 0, .ref m_read, .int 0, .int 0, .int 0, .ref m_tets, .int 0, .int 0, .int 0, .int 0, .int 0, .int 0, .int 0, .int 0, .ref m_primes, .ref m_often, .ref m_normal, .ref m_termM, .ref m_termP, .ref m_termV, .ref m_sumFrom, .ref m_sumMany, .int 0, .int 0, .int 0, .int 0, .ref m_part, .ref m_fair, .ref m_heap, .ref m_pickTet, .ref m_pickEdge, .ref m_base, .ref m_baseM, .ref m_baseP, .ref m_rowsOf, .int 0, .ref m_grid, .ref m_times, .ref m_boxes, .ref m_cameFrom, .ref m_cameBy, .ref m_steps, .ref m_sides, .int 0, .int (-1), .ref m_next, .ref m_cube, .ref m_ways])), (m_tape, .inl (cB, 600, (.inl fb_83)))] H := hP
          have hD : va_D A [(m0, .inr (11, [.int 0, .ref m_tape, .int (nI ((n + 1) + 1)), .int 0, .int 0, .ref m_read, .int 0, .int 0, .int 0, .ref m_tets, .int 0, .int 0, .int 0, .int 0, .int 0, .int 0, .int 0, .int 0, .ref m_primes, .ref m_often, .ref m_normal, .ref m_termM, .ref m_termP, .ref m_termV, .ref m_sumFrom, .ref m_sumMany, .int 0, .int 0, .int 0, .int 0, .ref m_part, .ref m_fair, .ref m_heap, .ref m_pickTet, .ref m_pickEdge, .ref m_base, .ref m_baseM, .ref m_baseP, .ref m_rowsOf, .int 0, .ref m_grid, .ref m_times, .ref m_boxes, .ref m_cameFrom, .ref m_cameBy, .ref m_steps, .ref m_sides, .int 0, .int (-1), .ref m_next, .ref m_cube, .ref m_ways])), (m_tape, .inl (cB, 600, (.inl fb_83)))] := hD
          refine lv_iinc (v := (-8)) (lv' := [(2, .int (-8)), (3, .int x_80), (0, .ref m0), (1, .int p0)]) hx hb dX11_brings_43 hl (k := 1) rfl (by decide) (by decide) rfl (fun ls hl => ?_)
          refine lv_goto (tgt := 3) hx hb dX11_brings_46 (by decide) ?_
          refine lv_iload_n hx hb dX11_brings_3 rfl (lv_at hl 0 rfl) ?_
          refine lv_if_lt (tgt := 49) hx hb dX11_brings_4 (by decide) (fun _ => ?_) (fun c => absurd (by decide) c)
          have h24 : sp_by p0 24 = 0 := if_pos (by rw [← ex_1, ← ex_2]; exact c_3)
          have h16 : sp_by p0 16 = 0 := if_pos (by rw [← ex_49, ← ex_50]; exact c_51)
          have h8 : sp_by p0 8 = 1 := if_neg (by rw [← ex_73, ← ex_74]; exact c_75)
          have h0 : sp_by p0 0 = 1 := if_neg (by rw [← ex_79, ← ex_80]; exact c_81)
          have hc : sp_cnt p0 = 2 := by unfold sp_cnt; rw [h24, h16, h8, h0]
          have hP9 := hP.sub (ws' := [(m0, .inr (11, [.int 0, .ref m_tape, .int (nI (n + 2)), .int 0, .int 0, .ref m_read, .int 0, .int 0, .int 0, .ref m_tets, .int 0, .int 0, .int 0, .int 0, .int 0, .int 0, .int 0, .int 0, .ref m_primes, .ref m_often, .ref m_normal, .ref m_termM, .ref m_termP, .ref m_termV, .ref m_sumFrom, .ref m_sumMany, .int 0, .int 0, .int 0, .int 0, .ref m_part, .ref m_fair, .ref m_heap, .ref m_pickTet, .ref m_pickEdge, .ref m_base, .ref m_baseM, .ref m_baseP, .ref m_rowsOf, .int 0, .ref m_grid, .ref m_times, .ref m_boxes, .ref m_cameFrom, .ref m_cameBy, .ref m_steps, .ref m_sides, .int 0, .int (-1), .ref m_next, .ref m_cube, .ref m_ways])), (m_tape, .inl (cB, 600, (.inl fb_83)))]) [0, 1] rfl
          have hD9 := hD.sub (ws' := [(m0, .inr (11, [.int 0, .ref m_tape, .int (nI (n + 2)), .int 0, .int 0, .ref m_read, .int 0, .int 0, .int 0, .ref m_tets, .int 0, .int 0, .int 0, .int 0, .int 0, .int 0, .int 0, .int 0, .ref m_primes, .ref m_often, .ref m_normal, .ref m_termM, .ref m_termP, .ref m_termV, .ref m_sumFrom, .ref m_sumMany, .int 0, .int 0, .int 0, .int 0, .ref m_part, .ref m_fair, .ref m_heap, .ref m_pickTet, .ref m_pickEdge, .ref m_base, .ref m_baseM, .ref m_baseP, .ref m_rowsOf, .int 0, .ref m_grid, .ref m_times, .ref m_boxes, .ref m_cameFrom, .ref m_cameBy, .ref m_steps, .ref m_sides, .int 0, .int (-1), .ref m_next, .ref m_cube, .ref m_ways])), (m_tape, .inl (cB, 600, (.inl fb_83)))]) [0, 1] (by decide) rfl
          exact W.vret hx hb hr (fun t ht hW => ⟨⟨(), rfl, trivial, fb_83, by rw [ht, hc]; exact hP9, va_K.moved hW.alike hK, by rw [hc]; exact hD9⟩, hS.F ht⟩) hS.2.2 dX11_brings_49
        · refine lv_goto (tgt := 43) hx hb dX11_brings_19 (by decide) ?_
          refine lv_iinc (v := (-8)) (lv' := [(2, .int (-8)), (3, .int x_80), (0, .ref m0), (1, .int p0)]) hx hb dX11_brings_43 hl (k := 1) rfl (by decide) (by decide) rfl (fun ls hl => ?_)
          refine lv_goto (tgt := 3) hx hb dX11_brings_46 (by decide) ?_
          refine lv_iload_n hx hb dX11_brings_3 rfl (lv_at hl 0 rfl) ?_
          refine lv_if_lt (tgt := 49) hx hb dX11_brings_4 (by decide) (fun _ => ?_) (fun c => absurd (by decide) c)
          have h24 : sp_by p0 24 = 0 := if_pos (by rw [← ex_1, ← ex_2]; exact c_3)
          have h16 : sp_by p0 16 = 0 := if_pos (by rw [← ex_49, ← ex_50]; exact c_51)
          have h8 : sp_by p0 8 = 1 := if_neg (by rw [← ex_73, ← ex_74]; exact c_75)
          have h0 : sp_by p0 0 = 0 := if_pos (by rw [← ex_79, ← ex_80]; exact c_81)
          have hc : sp_cnt p0 = 1 := by unfold sp_cnt; rw [h24, h16, h8, h0]
          have hP9 := hP.sub (ws' := [(m0, .inr (11, [.int 0, .ref m_tape, .int (nI (n + 1)), .int 0, .int 0, .ref m_read, .int 0, .int 0, .int 0, .ref m_tets, .int 0, .int 0, .int 0, .int 0, .int 0, .int 0, .int 0, .int 0, .ref m_primes, .ref m_often, .ref m_normal, .ref m_termM, .ref m_termP, .ref m_termV, .ref m_sumFrom, .ref m_sumMany, .int 0, .int 0, .int 0, .int 0, .ref m_part, .ref m_fair, .ref m_heap, .ref m_pickTet, .ref m_pickEdge, .ref m_base, .ref m_baseM, .ref m_baseP, .ref m_rowsOf, .int 0, .ref m_grid, .ref m_times, .ref m_boxes, .ref m_cameFrom, .ref m_cameBy, .ref m_steps, .ref m_sides, .int 0, .int (-1), .ref m_next, .ref m_cube, .ref m_ways])), (m_tape, .inl (cB, 600, (.inl fb_77)))]) [0, 1] rfl
          have hD9 := hD.sub (ws' := [(m0, .inr (11, [.int 0, .ref m_tape, .int (nI (n + 1)), .int 0, .int 0, .ref m_read, .int 0, .int 0, .int 0, .ref m_tets, .int 0, .int 0, .int 0, .int 0, .int 0, .int 0, .int 0, .int 0, .ref m_primes, .ref m_often, .ref m_normal, .ref m_termM, .ref m_termP, .ref m_termV, .ref m_sumFrom, .ref m_sumMany, .int 0, .int 0, .int 0, .int 0, .ref m_part, .ref m_fair, .ref m_heap, .ref m_pickTet, .ref m_pickEdge, .ref m_base, .ref m_baseM, .ref m_baseP, .ref m_rowsOf, .int 0, .ref m_grid, .ref m_times, .ref m_boxes, .ref m_cameFrom, .ref m_cameBy, .ref m_steps, .ref m_sides, .int 0, .int (-1), .ref m_next, .ref m_cube, .ref m_ways])), (m_tape, .inl (cB, 600, (.inl fb_77)))]) [0, 1] (by decide) rfl
          exact W.vret hx hb hr (fun t ht hW => ⟨⟨(), rfl, trivial, fb_77, by rw [ht, hc]; exact hP9, va_K.moved hW.alike hK, by rw [hc]; exact hD9⟩, hS.F ht⟩) hS.2.2 dX11_brings_49
      · refine lv_goto (tgt := 43) hx hb dX11_brings_19 (by decide) ?_
        refine lv_iinc (v := 0) (lv' := [(2, .int 0), (3, .int x_74), (0, .ref m0), (1, .int p0)]) hx hb dX11_brings_43 hl (k := 1) rfl (by decide) (by decide) rfl (fun ls hl => ?_)
        refine lv_goto (tgt := 3) hx hb dX11_brings_46 (by decide) ?_
        refine lv_iload_n hx hb dX11_brings_3 rfl (lv_at hl 0 rfl) ?_
        refine lv_if_lt (tgt := 49) hx hb dX11_brings_4 (by decide) (fun c => absurd c (by decide)) (fun _ => ?_)
        refine lv_iload_n hx hb dX11_brings_7 rfl (lv_at hl 3 rfl) ?_
        refine lv_iload_n hx hb dX11_brings_8 rfl (lv_at hl 0 rfl) ?_
        refine lv_ishr hx hb dX11_brings_9 ?_
        refine lv_topi (fun x_85 ex_85 => ?_)
        refine lv_sipush (v := 255) hx hb dX11_brings_10 (by decide) ?_
        refine lv_iand hx hb dX11_brings_13 ?_
        refine lv_topi (fun x_86 ex_86 => ?_)
        refine lv_istore_n (lv' := [(3, .int x_86), (2, .int 0), (0, .ref m0), (1, .int p0)]) hx hb dX11_brings_14 rfl hl (by decide) rfl (fun ls hl => ?_)
        refine lv_iload_n hx hb dX11_brings_15 rfl (lv_at hl 0 rfl) ?_
        refine lv_if_ne (tgt := 22) hx hb dX11_brings_16 (by decide) (fun c_87 => ?_) (fun c_87 => ?_)
        · refine lv_aload_n hx hb dX11_brings_22 rfl (lv_at hl 2 rfl) ?_
          refine va_get (D := (dC, dI)) (ci := 11) (v := .ref m_tape) (C := RX11) (T := TX11) (N := 52) hx hb hts hiX11 hown hK hP 0 rfl rfl 1 (by decide) (hts (.fieldLink RX11 9 "ScissorsTableModel" "tape" "[B") (by decide +kernel)) (fun _ h9 => h9) rfl dX11_brings_23 ?_
          refine lv_aload_n hx hb dX11_brings_26 rfl (lv_at hl 2 rfl) ?_
          refine va_get (D := (dC, dI)) (ci := 11) (v := .int (nI n)) (C := RX11) (T := TX11) (N := 52) hx hb hts hiX11 hown hK hP 0 rfl rfl 2 (by decide) (hts (.fieldLink RX11 109 "ScissorsTableModel" "length" "I") (by decide +kernel)) (fun _ h9 => h9) rfl dX11_brings_27 ?_
          refine lv_iload_n hx hb dX11_brings_30 rfl (lv_at hl 0 rfl) ?_
          refine lv_i2b hx hb dX11_brings_31 rfl ?_
          refine lv_topi (fun x_88 ex_88 => ?_)
          refine va_bast hx hb hK hP hD hS 1 0 rfl rfl (vp_in_nI (by omega) (by decide)) dX11_brings_32 (fun H locs hP hD hS => ?_)
          generalize upd fb (nI n).toNatClampNeg (vp_nar .byte x_88) = fb_89 at hP hD
          have hP : va_P (dC, dI) vwCl [(m0, .inr (11, [.int 0, .ref m_tape, .int (nI n), .int 0, .int 0, .ref m_read, .int 0, .int 0, .int 0, .ref m_tets, .int 0, .int 0, .int 0, .int 0, .int 0, .int 0, .int 0, .int 0, .ref m_primes, .ref m_often, .ref m_normal, .ref m_termM, .ref m_termP, .ref m_termV, .ref m_sumFrom, .ref m_sumMany, .int 0, .int 0, .int 0, .int 0, .ref m_part, .ref m_fair, .ref m_heap, .ref m_pickTet, .ref m_pickEdge, .ref m_base, .ref m_baseM, .ref m_baseP, .ref m_rowsOf, .int 0, .ref m_grid, .ref m_times, .ref m_boxes, .ref m_cameFrom, .ref m_cameBy, .ref m_steps, .ref m_sides, .int 0, .int (-1), .ref m_next, .ref m_cube, .ref m_ways])), (m_tape, .inl (cB, 600, (.inl fb_89)))] H := hP
          have hD : va_D A [(m0, .inr (11, [.int 0, .ref m_tape, .int (nI n), .int 0, .int 0, .ref m_read, .int 0, .int 0, .int 0, .ref m_tets, .int 0, .int 0, .int 0, .int 0, .int 0, .int 0, .int 0, .int 0, .ref m_primes, .ref m_often, .ref m_normal, .ref m_termM, .ref m_termP, .ref m_termV, .ref m_sumFrom, .ref m_sumMany, .int 0, .int 0, .int 0, .int 0, .ref m_part, .ref m_fair, .ref m_heap, .ref m_pickTet, .ref m_pickEdge, .ref m_base, .ref m_baseM, .ref m_baseP, .ref m_rowsOf, .int 0, .ref m_grid, .ref m_times, .ref m_boxes, .ref m_cameFrom, .ref m_cameBy, .ref m_steps, .ref m_sides, .int 0, .int (-1), .ref m_next, .ref m_cube, .ref m_ways])), (m_tape, .inl (cB, 600, (.inl fb_89)))] := hD
          refine lv_aload_n hx hb dX11_brings_33 rfl (lv_at hl 2 rfl) ?_
          refine lv_dup hx hb dX11_brings_34 rfl ?_
          refine va_get (D := (dC, dI)) (ci := 11) (v := .int (nI n)) (C := RX11) (T := TX11) (N := 52) hx hb hts hiX11 hown hK hP 0 rfl rfl 2 (by decide) (hts (.fieldLink RX11 109 "ScissorsTableModel" "length" "I") (by decide +kernel)) (fun _ h9 => h9) rfl dX11_brings_35 ?_
          refine lv_iconst (v := 1) hx hb dX11_brings_38 (by decide) ?_
          refine lv_iadd hx hb dX11_brings_39 ?_
          refine lv_topi (fun x_90 ex_90 => ?_)
          obtain rfl : x_90 = nI (n + 1) := ex_90.trans (nI_add n 1)
          refine va_put (D := (dC, dI)) (ci := 11) (v := .int (nI (n + 1))) (ty := .int) (C := RX11) (T := TX11) (N := 52) hx hb hts hiX11 tyX11 tyX11_ok nmX11 hown hK hP hD hS 0 rfl rfl 2 (by decide) (hts (.fieldLink RX11 109 "ScissorsTableModel" "length" "I") (by decide +kernel)) (fun _ h9 => h9) rfl (by decide +kernel) rfl rfl (Nat.le_of_ble_eq_true rfl) dX11_brings_40 (fun H locs hP hD hS => ?_)
          have hP : va_P (dC, dI) vwCl [(m0, .inr (11, [.int 0, .ref m_tape, .int (nI (n + 1)), .int 0, .int 0, .ref m_read, .int 0, .int 0, .int 0, .ref m_tets, .int 0, .int 0, .int 0, .int 0, .int 0, .int 0, .int 0, .int 0, .ref m_primes, .ref m_often, .ref m_normal, .ref m_termM, .ref m_termP, .ref m_termV, .ref m_sumFrom, .ref m_sumMany, .int 0, .int 0, .int 0, .int 0, .ref m_part, .ref m_fair, .ref m_heap, .ref m_pickTet, .ref m_pickEdge, .ref m_base, .ref m_baseM, .ref m_baseP, .ref m_rowsOf, .int 0, .ref m_grid, .ref m_times, .ref m_boxes, .ref m_cameFrom, .ref m_cameBy, .ref m_steps, .ref m_sides, .int 0, .int (-1), .ref m_next, .ref m_cube, .ref m_ways])), (m_tape, .inl (cB, 600, (.inl fb_89)))] H := hP
          have hD : va_D A [(m0, .inr (11, [.int 0, .ref m_tape, .int (nI (n + 1)), .int 0, .int 0, .ref m_read, .int 0, .int 0, .int 0, .ref m_tets, .int 0, .int 0, .int 0, .int 0, .int 0, .int 0, .int 0, .int 0, .ref m_primes, .ref m_often, .ref m_normal, .ref m_termM, .ref m_termP, .ref m_termV, .ref m_sumFrom, .ref m_sumMany, .int 0, .int 0, .int 0, .int 0, .ref m_part, .ref m_fair, .ref m_heap, .ref m_pickTet, .ref m_pickEdge, .ref m_base, .ref m_baseM, .ref m_baseP, .ref m_rowsOf, .int 0, .ref m_grid, .ref m_times, .ref m_boxes, .ref m_cameFrom, .ref m_cameBy, .ref m_steps, .ref m_sides, .int 0, .int (-1), .ref m_next, .ref m_cube, .ref m_ways])), (m_tape, .inl (cB, 600, (.inl fb_89)))] := hD
          refine lv_iinc (v := (-8)) (lv' := [(2, .int (-8)), (3, .int x_86), (0, .ref m0), (1, .int p0)]) hx hb dX11_brings_43 hl (k := 1) rfl (by decide) (by decide) rfl (fun ls hl => ?_)
          refine lv_goto (tgt := 3) hx hb dX11_brings_46 (by decide) ?_
          refine lv_iload_n hx hb dX11_brings_3 rfl (lv_at hl 0 rfl) ?_
          refine lv_if_lt (tgt := 49) hx hb dX11_brings_4 (by decide) (fun _ => ?_) (fun c => absurd (by decide) c)
          have h24 : sp_by p0 24 = 0 := if_pos (by rw [← ex_1, ← ex_2]; exact c_3)
          have h16 : sp_by p0 16 = 0 := if_pos (by rw [← ex_49, ← ex_50]; exact c_51)
          have h8 : sp_by p0 8 = 0 := if_pos (by rw [← ex_73, ← ex_74]; exact c_75)
          have h0 : sp_by p0 0 = 1 := if_neg (by rw [← ex_85, ← ex_86]; exact c_87)
          have hc : sp_cnt p0 = 1 := by unfold sp_cnt; rw [h24, h16, h8, h0]
          have hP9 := hP.sub (ws' := [(m0, .inr (11, [.int 0, .ref m_tape, .int (nI (n + 1)), .int 0, .int 0, .ref m_read, .int 0, .int 0, .int 0, .ref m_tets, .int 0, .int 0, .int 0, .int 0, .int 0, .int 0, .int 0, .int 0, .ref m_primes, .ref m_often, .ref m_normal, .ref m_termM, .ref m_termP, .ref m_termV, .ref m_sumFrom, .ref m_sumMany, .int 0, .int 0, .int 0, .int 0, .ref m_part, .ref m_fair, .ref m_heap, .ref m_pickTet, .ref m_pickEdge, .ref m_base, .ref m_baseM, .ref m_baseP, .ref m_rowsOf, .int 0, .ref m_grid, .ref m_times, .ref m_boxes, .ref m_cameFrom, .ref m_cameBy, .ref m_steps, .ref m_sides, .int 0, .int (-1), .ref m_next, .ref m_cube, .ref m_ways])), (m_tape, .inl (cB, 600, (.inl fb_89)))]) [0, 1] rfl
          have hD9 := hD.sub (ws' := [(m0, .inr (11, [.int 0, .ref m_tape, .int (nI (n + 1)), .int 0, .int 0, .ref m_read, .int 0, .int 0, .int 0, .ref m_tets, .int 0, .int 0, .int 0, .int 0, .int 0, .int 0, .int 0, .int 0, .ref m_primes, .ref m_often, .ref m_normal, .ref m_termM, .ref m_termP, .ref m_termV, .ref m_sumFrom, .ref m_sumMany, .int 0, .int 0, .int 0, .int 0, .ref m_part, .ref m_fair, .ref m_heap, .ref m_pickTet, .ref m_pickEdge, .ref m_base, .ref m_baseM, .ref m_baseP, .ref m_rowsOf, .int 0, .ref m_grid, .ref m_times, .ref m_boxes, .ref m_cameFrom, .ref m_cameBy, .ref m_steps, .ref m_sides, .int 0, .int (-1), .ref m_next, .ref m_cube, .ref m_ways])), (m_tape, .inl (cB, 600, (.inl fb_89)))]) [0, 1] (by decide) rfl
          exact W.vret hx hb hr (fun t ht hW => ⟨⟨(), rfl, trivial, fb_89, by rw [ht, hc]; exact hP9, va_K.moved hW.alike hK, by rw [hc]; exact hD9⟩, hS.F ht⟩) hS.2.2 dX11_brings_49
        · refine lv_goto (tgt := 43) hx hb dX11_brings_19 (by decide) ?_
          refine lv_iinc (v := (-8)) (lv' := [(2, .int (-8)), (3, .int x_86), (0, .ref m0), (1, .int p0)]) hx hb dX11_brings_43 hl (k := 1) rfl (by decide) (by decide) rfl (fun ls hl => ?_)
          refine lv_goto (tgt := 3) hx hb dX11_brings_46 (by decide) ?_
          refine lv_iload_n hx hb dX11_brings_3 rfl (lv_at hl 0 rfl) ?_
          refine lv_if_lt (tgt := 49) hx hb dX11_brings_4 (by decide) (fun _ => ?_) (fun c => absurd (by decide) c)
          have h24 : sp_by p0 24 = 0 := if_pos (by rw [← ex_1, ← ex_2]; exact c_3)
          have h16 : sp_by p0 16 = 0 := if_pos (by rw [← ex_49, ← ex_50]; exact c_51)
          have h8 : sp_by p0 8 = 0 := if_pos (by rw [← ex_73, ← ex_74]; exact c_75)
          have h0 : sp_by p0 0 = 0 := if_pos (by rw [← ex_85, ← ex_86]; exact c_87)
          have hc : sp_cnt p0 = 0 := by unfold sp_cnt; rw [h24, h16, h8, h0]
          have hP9 := hP.sub (ws' := [(m0, .inr (11, [.int 0, .ref m_tape, .int (nI (n + 0)), .int 0, .int 0, .ref m_read, .int 0, .int 0, .int 0, .ref m_tets, .int 0, .int 0, .int 0, .int 0, .int 0, .int 0, .int 0, .int 0, .ref m_primes, .ref m_often, .ref m_normal, .ref m_termM, .ref m_termP, .ref m_termV, .ref m_sumFrom, .ref m_sumMany, .int 0, .int 0, .int 0, .int 0, .ref m_part, .ref m_fair, .ref m_heap, .ref m_pickTet, .ref m_pickEdge, .ref m_base, .ref m_baseM, .ref m_baseP, .ref m_rowsOf, .int 0, .ref m_grid, .ref m_times, .ref m_boxes, .ref m_cameFrom, .ref m_cameBy, .ref m_steps, .ref m_sides, .int 0, .int (-1), .ref m_next, .ref m_cube, .ref m_ways])), (m_tape, .inl (cB, 600, (.inl fb)))]) [0, 1] rfl
          have hD9 := hD.sub (ws' := [(m0, .inr (11, [.int 0, .ref m_tape, .int (nI (n + 0)), .int 0, .int 0, .ref m_read, .int 0, .int 0, .int 0, .ref m_tets, .int 0, .int 0, .int 0, .int 0, .int 0, .int 0, .int 0, .int 0, .ref m_primes, .ref m_often, .ref m_normal, .ref m_termM, .ref m_termP, .ref m_termV, .ref m_sumFrom, .ref m_sumMany, .int 0, .int 0, .int 0, .int 0, .ref m_part, .ref m_fair, .ref m_heap, .ref m_pickTet, .ref m_pickEdge, .ref m_base, .ref m_baseM, .ref m_baseP, .ref m_rowsOf, .int 0, .ref m_grid, .ref m_times, .ref m_boxes, .ref m_cameFrom, .ref m_cameBy, .ref m_steps, .ref m_sides, .int 0, .int (-1), .ref m_next, .ref m_cube, .ref m_ways])), (m_tape, .inl (cB, 600, (.inl fb)))]) [0, 1] (by decide) rfl
          exact W.vret hx hb hr (fun t ht hW => ⟨⟨(), rfl, trivial, fb, by rw [ht, hc]; exact hP9, va_K.moved hW.alike hK, by rw [hc]; exact hD9⟩, hS.F ht⟩) hS.2.2 dX11_brings_49
