theorem dX7_boxOf_0 : decode cX7_boxOf 0 = .ok (.iload_n 0, 1) := by decide +kernel
theorem dX7_boxOf_1 : decode cX7_boxOf 1 = .ok (.iconst 1, 1) := by decide +kernel
theorem dX7_boxOf_2 : decode cX7_boxOf 2 = .ok (.isub, 1) := by decide +kernel
theorem dX7_boxOf_3 : decode cX7_boxOf 3 = .ok (.bipush 24, 2) := by decide +kernel
theorem dX7_boxOf_5 : decode cX7_boxOf 5 = .ok (.imul, 1) := by decide +kernel
theorem dX7_boxOf_6 : decode cX7_boxOf 6 = .ok (.iload_n 1, 1) := by decide +kernel
theorem dX7_boxOf_7 : decode cX7_boxOf 7 = .ok (.iadd, 1) := by decide +kernel
theorem dX7_boxOf_8 : decode cX7_boxOf 8 = .ok (.iconst 1, 1) := by decide +kernel
theorem dX7_boxOf_9 : decode cX7_boxOf 9 = .ok (.isub, 1) := by decide +kernel
theorem dX7_boxOf_10 : decode cX7_boxOf 10 = .ok (.ireturn, 1) := by decide +kernel
theorem dJ7_fill_53178_0 : decode cJ7_fill_53178 0 = .ok (.iconst 0, 1) := by decide +kernel
theorem dJ7_fill_53178_1 : decode cJ7_fill_53178 1 = .ok (.istore_n 2, 1) := by decide +kernel
theorem dJ7_fill_53178_2 : decode cJ7_fill_53178 2 = .ok (.aload_n 0, 1) := by decide +kernel
theorem dJ7_fill_53178_3 : decode cJ7_fill_53178 3 = .ok (.arraylength, 1) := by decide +kernel
theorem dJ7_fill_53178_4 : decode cJ7_fill_53178 4 = .ok (.istore_n 3, 1) := by decide +kernel
theorem dJ7_fill_53178_5 : decode cJ7_fill_53178 5 = .ok (.iload_n 2, 1) := by decide +kernel
theorem dJ7_fill_53178_6 : decode cJ7_fill_53178 6 = .ok (.iload_n 3, 1) := by decide +kernel
theorem dJ7_fill_53178_7 : decode cJ7_fill_53178 7 = .ok (.if_icmp .ge 13, 3) := by decide +kernel
theorem dJ7_fill_53178_10 : decode cJ7_fill_53178 10 = .ok (.aload_n 0, 1) := by decide +kernel
theorem dJ7_fill_53178_11 : decode cJ7_fill_53178 11 = .ok (.iload_n 2, 1) := by decide +kernel
theorem dJ7_fill_53178_12 : decode cJ7_fill_53178 12 = .ok (.iload_n 1, 1) := by decide +kernel
theorem dJ7_fill_53178_13 : decode cJ7_fill_53178 13 = .ok (.iastore, 1) := by decide +kernel
theorem dJ7_fill_53178_14 : decode cJ7_fill_53178 14 = .ok (.iinc 2 1, 3) := by decide +kernel
theorem dJ7_fill_53178_17 : decode cJ7_fill_53178 17 = .ok (.goto (-12), 3) := by decide +kernel
theorem dJ7_fill_53178_20 : decode cJ7_fill_53178 20 = .ok (.return_, 1) := by decide +kernel
set_option maxHeartbeats 4000000 in
set_option maxRecDepth 100000 in
theorem c_X7_boxOf (l : Launch) (dC : Nat → ClassId) (dI : Nat → Nat → Nat) (cB cI cJ : ClassId) (sz : Nat) (a0 b0 : Nat) (ha0 : 1 ≤ a0) (hb0 : 1 ≤ b0) : Met l yX7_boxOf wsX7_boxOf ({ frames := 1, cells := 0, slots := 0, locals := 24 }) (va_Pc [.int (nI a0), .int (nI b0)] (fun U => U.heap.size = sz ∧ va_P (dC, dI) vwCl [] U.heap ∧ va_K (dC, dI) vwCl [(cB, .byte), (cI, .int), (cJ, .long)] U ∧ va_D (fun _ => True) [])) (va_Qi (fun (r : Int32) (_ : Unit) => r = nI ((a0 - 1) * 24 + (b0 - 1))) (fun _ _ => True) (va_A [] sz)) 0 0 (va_A [] sz) := by
  refine Met.ofW (cc := cX7_boxOf) (maxL := 2) (ret := (some .int)) (by decide) rfl ?_
  intro p e s m args below meth c s₁ B hml hv
  obtain ⟨rfl, hsz, hP, hK, hD0⟩ := hv
  have hx := B.exec
  have hb := B.bytes
  have hr := B.returns
  have hts := atoms_spec (ws := wsX7_boxOf) B.pre
  have hown : s.vm.findClass RX7 = some m.cls := findClass_of_methodNamed B.named
  have hlocks := B.notSynchronized
  subst hsz
  have hD := hD0.self (sz := s.heap.size)
  generalize hAe : va_A [] s.heap.size = A at hD ⊢
  have hA : ∀ q : Nat, s.heap.size ≤ q → A q := fun q h => by rw [← hAe]; exact Or.inr h
  have hS : va_S A s.heap s.heap [] := va_S.rf
  have hP : va_P (dC, dI) vwCl [] s.heap := hP
  have hl := lv_entry ([.int (nI a0), .int (nI b0)]) (n := 2) (Nat.le_of_ble_eq_true rfl)
  rw [lg_entry_eq]
  generalize (lg_sl ([.int (nI a0), .int (nI b0)]) ++ List.replicate (2 - (lg_sl ([.int (nI a0), .int (nI b0)])).length) Slot.unset).toArray = ls at hl ⊢
  have hl : lv_has ls 2 [(0, .int (nI a0)), (1, .int (nI b0))] := hl
  refine lv_iload_n hx hb dX7_boxOf_0 rfl (lv_at hl 0 rfl) ?_
  refine lv_iconst (v := 1) hx hb dX7_boxOf_1 (by decide) ?_
  refine lv_isub hx hb dX7_boxOf_2 ?_
  refine lv_topi (fun x_1 ex_1 => ?_)
  obtain rfl : x_1 = nI (a0 - 1) := ex_1.trans (pk_sub (a := a0) (b := 1) (by omega))
  refine lv_bipush (v := 24) hx hb dX7_boxOf_3 (by decide) ?_
  refine lv_imul hx hb dX7_boxOf_5 ?_
  refine lv_topi (fun x_2 ex_2 => ?_)
  obtain rfl : x_2 = nI ((a0 - 1) * 24) := ex_2.trans (pk_mul (a0 - 1) 24)
  refine lv_iload_n hx hb dX7_boxOf_6 rfl (lv_at hl 1 rfl) ?_
  refine lv_iadd hx hb dX7_boxOf_7 ?_
  refine lv_topi (fun x_3 ex_3 => ?_)
  obtain rfl : x_3 = nI (((a0 - 1) * 24) + b0) := ex_3.trans (nI_add ((a0 - 1) * 24) b0)
  refine lv_iconst (v := 1) hx hb dX7_boxOf_8 (by decide) ?_
  refine lv_isub hx hb dX7_boxOf_9 ?_
  refine lv_topi (fun x_4 ex_4 => ?_)
  obtain rfl : x_4 = nI ((a0 - 1) * 24 + (b0 - 1)) := ex_4.trans ((pk_sub (a := ((a0 - 1) * 24) + b0) (b := 1) (by omega)).trans (congrArg nI (show (((a0 - 1) * 24) + b0) - 1 = (a0 - 1) * 24 + (b0 - 1) from (by omega))))
  refine W.widen (k := 0) (n := 0) (Nat.le_of_ble_eq_true rfl) (Nat.le_of_ble_eq_true rfl) ?_
  exact W.iret (v := (nI ((a0 - 1) * 24 + (b0 - 1)))) hx hb hr (fun t ht hW => ⟨⟨(nI ((a0 - 1) * 24 + (b0 - 1))), (), rfl, rfl, trivial⟩, hS.F ht⟩) hS.2.2 dX7_boxOf_10
set_option maxHeartbeats 4000000 in
set_option maxRecDepth 100000 in
theorem c_J7_fill_53178 (l : Launch) (dC : Nat → ClassId) (dI : Nat → Nat → Nat) (cB cI cJ : ClassId) (sz : Nat) (hM : Nat) (w0 : Int32) (f0 : Nat → Int32) : Met l yJ7_fill_53178 wsJ7_fill_53178 ({ frames := 1, cells := 0, slots := 0, locals := 24 }) (va_Pc [.ref hM, .int w0] (fun U => U.heap.size = sz ∧ va_P (dC, dI) vwCl [(hM, .inl (cI, 576, (.inl f0)))] U.heap ∧ va_K (dC, dI) vwCl [(cB, .byte), (cI, .int), (cJ, .long)] U ∧ va_D (fun _ => True) [(hM, .inl (cI, 576, (.inl f0)))])) (va_Qv (fun _ : Unit => True) (fun _ t => ∃ fz : Nat → Int32, (∀ j, j < 576 → fz j = w0) ∧ va_P (dC, dI) vwCl [(hM, .inl (cI, 576, (.inl fz)))] t.heap ∧ va_K (dC, dI) vwCl [(cB, .byte), (cI, .int), (cJ, .long)] t ∧ va_D (va_A [(hM, .inl (cI, 576, (.inl f0)))] sz) [(hM, .inl (cI, 576, (.inl fz)))]) (va_A [(hM, .inl (cI, 576, (.inl f0)))] sz)) 0 0 (va_A [(hM, .inl (cI, 576, (.inl f0)))] sz) := by
  refine Met.ofW (cc := cJ7_fill_53178) (maxL := 4) (ret := none) (by decide) rfl ?_
  intro p e s m args below meth c s₁ B hml hv
  obtain ⟨rfl, hsz, hP, hK, hD0⟩ := hv
  have hx := B.exec
  have hb := B.bytes
  have hr := B.returns
  have hts := atoms_spec (ws := wsJ7_fill_53178) B.pre
  have hown : s.vm.findClass RJ7 = some m.cls := findClass_of_methodNamed B.named
  have hlocks := B.notSynchronized
  subst hsz
  have hD := hD0.self (sz := s.heap.size)
  generalize hAe : va_A [(hM, .inl (cI, 576, (.inl f0)))] s.heap.size = A at hD ⊢
  have hA : ∀ q : Nat, s.heap.size ≤ q → A q := fun q h => by rw [← hAe]; exact Or.inr h
  have hS : va_S A s.heap s.heap [] := va_S.rf
  have hP : va_P (dC, dI) vwCl [(hM, .inl (cI, 576, (.inl f0)))] s.heap := hP
  have hl := lv_entry ([.ref hM, .int w0]) (n := 4) (Nat.le_of_ble_eq_true rfl)
  rw [lg_entry_eq]
  generalize (lg_sl ([.ref hM, .int w0]) ++ List.replicate (4 - (lg_sl ([.ref hM, .int w0])).length) Slot.unset).toArray = ls at hl ⊢
  have hl : lv_has ls 4 [(0, .ref hM), (1, .int w0)] := hl
  refine lv_iconst (v := 0) hx hb dJ7_fill_53178_0 (by decide) ?_
  refine lv_istore_n (lv' := [(2, .int 0), (0, .ref hM), (1, .int w0)]) hx hb dJ7_fill_53178_1 rfl hl (by decide) rfl (fun ls hl => ?_)
  refine lv_aload_n hx hb dJ7_fill_53178_2 rfl (lv_at hl 1 rfl) ?_
  refine va_alen (v := 576) hx hb hK hP 0 1 rfl rfl rfl dJ7_fill_53178_3 ?_
  refine lv_istore_n (lv' := [(3, .int 576), (2, .int 0), (0, .ref hM), (1, .int w0)]) hx hb dJ7_fill_53178_4 rfl hl (by decide) rfl (fun ls hl => ?_)
  refine nk_G (fun G inn out => ?_)
  have loop : ∀ (f : Nat) (i : Nat) (g : Nat → Int32) (h5 : i + f = 577) (h6 : i ≤ 576) (hg : ∀ j, j < i → g j = w0) (H : Heap) (locs : List Loc) (_ : va_P (dC, dI) vwCl [(hM, .inl (cI, 576, (.inl g)))] H) (_ : va_D A [(hM, .inl (cI, 576, (.inl g)))]) (_ : va_S A s.heap H locs) (ls : Array Slot) (_ : lv_has ls 4 [(0, .ref hM), (1, .int w0), (2, .int (nI i)), (3, .int 576)]), G H locs (F0 m 5 ls []) := by
    intro f
    induction f with
    | zero =>
      intro i g h5 h6 hg H locs hP hD hS ls hl
      exfalso; omega
    | succ f ih =>
      intro i g h5 h6 hg H locs hP hD hS ls hl
      refine inn _ _ _ ?_
      refine lv_iload_n hx hb dJ7_fill_53178_5 rfl (lv_at hl 2 rfl) ?_
      refine lv_iload_n hx hb dJ7_fill_53178_6 rfl (lv_at hl 3 rfl) ?_
      refine lv_icmp_ge (tgt := 20) hx hb dJ7_fill_53178_7 (by decide) (fun c_1 => ?_) (fun c_1 => ?_)
      · have c_1 : 576 ≤ i := (nI_leI (a := 576) (b := i) (by omega) (by omega)).mp c_1
        have hP9 := hP.sub (ws' := [(hM, .inl (cI, 576, (.inl g)))]) [0] rfl
        have hD9 := hD.sub (ws' := [(hM, .inl (cI, 576, (.inl g)))]) [0] (by decide) rfl
        refine W.widen (k := 0) (n := 0) (Nat.le_of_ble_eq_true rfl) (Nat.le_of_ble_eq_true rfl) ?_
        exact W.vret hx hb hr (fun t ht hW => ⟨⟨(), rfl, trivial, g, fun j hj => hg j (by omega), by rw [ht]; exact hP9, va_K.moved hW.alike hK, hD9⟩, hS.F ht⟩) hS.2.2 dJ7_fill_53178_20
      · have c_1 : ¬ 576 ≤ i := fun q9 => c_1 ((nI_leI (a := 576) (b := i) (by omega) (by omega)).mpr q9)
        refine lv_aload_n hx hb dJ7_fill_53178_10 rfl (lv_at hl 0 rfl) ?_
        refine lv_iload_n hx hb dJ7_fill_53178_11 rfl (lv_at hl 2 rfl) ?_
        refine lv_iload_n hx hb dJ7_fill_53178_12 rfl (lv_at hl 1 rfl) ?_
        refine va_iast hx hb hK hP hD hS 0 1 rfl rfl (vp_in_nI (by omega) (by decide)) dJ7_fill_53178_13 (fun H locs hP hD hS => ?_)
        rw [nI_clamp (show i < 2 ^ 31 by omega)] at hP hD
        have hP : va_P (dC, dI) vwCl [(hM, .inl (cI, 576, (.inl (upd g i w0))))] H := hP
        have hD : va_D A [(hM, .inl (cI, 576, (.inl (upd g i w0))))] := hD
        obtain ⟨x_2, ex_2⟩ : ∃ y : Int32, y = (nI i) + 1 := ⟨_, rfl⟩
        refine lv_iinc (v := x_2) (lv' := [(2, .int x_2), (0, .ref hM), (1, .int w0), (3, .int 576)]) hx hb dJ7_fill_53178_14 hl (k := 2) rfl (by rw [ex_2]; rfl) (by decide) rfl (fun ls hl => ?_)
        obtain rfl : x_2 = nI (i + 1) := ex_2.trans (nI_1 i)
        have hl : lv_has ls 4 [(2, .int (nI (i + 1))), (0, .ref hM), (1, .int w0), (3, .int 576)] := hl
        refine lv_goto (tgt := 5) hx hb dJ7_fill_53178_17 (by decide) ?_
        exact out _ _ _ (ih (i + 1) _ (by omega) (by omega) (nk_fill hg) _ _ (hP.sub [0] rfl) (hD.sub [0] (by decide) rfl) hS ls (lv_sub hl [1, 2, 0, 3] rfl))
  exact loop 577 0 f0 rfl (by omega) (fun j hj => absurd hj (by omega)) _ _ (hP.sub [0] rfl) (hD.sub [0] (by decide) rfl) hS ls (lv_sub hl [2, 3, 1, 0] rfl)
