theorem dX11_goes__0 : decode cX11_goes_ 0 = .ok (.aload_n 0, 1) := by decide +kernel
theorem dX11_goes__1 : decode cX11_goes_ 1 = .ok (.getfield 97, 3) := by decide +kernel
theorem dX11_goes__4 : decode cX11_goes_ 4 = .ok (.iload_n 1, 1) := by decide +kernel
theorem dX11_goes__5 : decode cX11_goes_ 5 = .ok (.iaload, 1) := by decide +kernel
theorem dX11_goes__6 : decode cX11_goes_ 6 = .ok (.iload_n 3, 1) := by decide +kernel
theorem dX11_goes__7 : decode cX11_goes_ 7 = .ok (.irem, 1) := by decide +kernel
theorem dX11_goes__8 : decode cX11_goes_ 8 = .ok (.ifCond .ne 33, 3) := by decide +kernel
theorem dX11_goes__11 : decode cX11_goes_ 11 = .ok (.aload_n 0, 1) := by decide +kernel
theorem dX11_goes__12 : decode cX11_goes_ 12 = .ok (.getfield 97, 3) := by decide +kernel
theorem dX11_goes__15 : decode cX11_goes_ 15 = .ok (.iload_n 2, 1) := by decide +kernel
theorem dX11_goes__16 : decode cX11_goes_ 16 = .ok (.iaload, 1) := by decide +kernel
theorem dX11_goes__17 : decode cX11_goes_ 17 = .ok (.iload_n 3, 1) := by decide +kernel
theorem dX11_goes__18 : decode cX11_goes_ 18 = .ok (.iconst 1, 1) := by decide +kernel
theorem dX11_goes__19 : decode cX11_goes_ 19 = .ok (.isub, 1) := by decide +kernel
theorem dX11_goes__20 : decode cX11_goes_ 20 = .ok (.irem, 1) := by decide +kernel
theorem dX11_goes__21 : decode cX11_goes_ 21 = .ok (.ifCond .ne 20, 3) := by decide +kernel
theorem dX11_goes__24 : decode cX11_goes_ 24 = .ok (.aload_n 0, 1) := by decide +kernel
theorem dX11_goes__25 : decode cX11_goes_ 25 = .ok (.getfield 97, 3) := by decide +kernel
theorem dX11_goes__28 : decode cX11_goes_ 28 = .ok (.iload_n 2, 1) := by decide +kernel
theorem dX11_goes__29 : decode cX11_goes_ 29 = .ok (.iaload, 1) := by decide +kernel
theorem dX11_goes__30 : decode cX11_goes_ 30 = .ok (.iload_n 3, 1) := by decide +kernel
theorem dX11_goes__31 : decode cX11_goes_ 31 = .ok (.iconst 1, 1) := by decide +kernel
theorem dX11_goes__32 : decode cX11_goes_ 32 = .ok (.isub, 1) := by decide +kernel
theorem dX11_goes__33 : decode cX11_goes_ 33 = .ok (.idiv, 1) := by decide +kernel
theorem dX11_goes__34 : decode cX11_goes_ 34 = .ok (.iload_n 3, 1) := by decide +kernel
theorem dX11_goes__35 : decode cX11_goes_ 35 = .ok (.imul, 1) := by decide +kernel
theorem dX11_goes__36 : decode cX11_goes_ 36 = .ok (.bipush 24, 2) := by decide +kernel
theorem dX11_goes__38 : decode cX11_goes_ 38 = .ok (.if_icmp .le 5, 3) := by decide +kernel
theorem dX11_goes__41 : decode cX11_goes_ 41 = .ok (.iconst 0, 1) := by decide +kernel
theorem dX11_goes__42 : decode cX11_goes_ 42 = .ok (.ireturn, 1) := by decide +kernel
theorem dX11_goes__43 : decode cX11_goes_ 43 = .ok (.aload_n 0, 1) := by decide +kernel
theorem dX11_goes__44 : decode cX11_goes_ 44 = .ok (.getfield 97, 3) := by decide +kernel
theorem dX11_goes__47 : decode cX11_goes_ 47 = .ok (.iload_n 1, 1) := by decide +kernel
theorem dX11_goes__48 : decode cX11_goes_ 48 = .ok (.aload_n 0, 1) := by decide +kernel
theorem dX11_goes__49 : decode cX11_goes_ 49 = .ok (.getfield 97, 3) := by decide +kernel
theorem dX11_goes__52 : decode cX11_goes_ 52 = .ok (.iload_n 1, 1) := by decide +kernel
theorem dX11_goes__53 : decode cX11_goes_ 53 = .ok (.iaload, 1) := by decide +kernel
theorem dX11_goes__54 : decode cX11_goes_ 54 = .ok (.iload_n 3, 1) := by decide +kernel
theorem dX11_goes__55 : decode cX11_goes_ 55 = .ok (.idiv, 1) := by decide +kernel
theorem dX11_goes__56 : decode cX11_goes_ 56 = .ok (.iload_n 3, 1) := by decide +kernel
theorem dX11_goes__57 : decode cX11_goes_ 57 = .ok (.iconst 1, 1) := by decide +kernel
theorem dX11_goes__58 : decode cX11_goes_ 58 = .ok (.isub, 1) := by decide +kernel
theorem dX11_goes__59 : decode cX11_goes_ 59 = .ok (.imul, 1) := by decide +kernel
theorem dX11_goes__60 : decode cX11_goes_ 60 = .ok (.iastore, 1) := by decide +kernel
theorem dX11_goes__61 : decode cX11_goes_ 61 = .ok (.aload_n 0, 1) := by decide +kernel
theorem dX11_goes__62 : decode cX11_goes_ 62 = .ok (.getfield 97, 3) := by decide +kernel
theorem dX11_goes__65 : decode cX11_goes_ 65 = .ok (.iload_n 2, 1) := by decide +kernel
theorem dX11_goes__66 : decode cX11_goes_ 66 = .ok (.aload_n 0, 1) := by decide +kernel
theorem dX11_goes__67 : decode cX11_goes_ 67 = .ok (.getfield 97, 3) := by decide +kernel
theorem dX11_goes__70 : decode cX11_goes_ 70 = .ok (.iload_n 2, 1) := by decide +kernel
theorem dX11_goes__71 : decode cX11_goes_ 71 = .ok (.iaload, 1) := by decide +kernel
theorem dX11_goes__72 : decode cX11_goes_ 72 = .ok (.iload_n 3, 1) := by decide +kernel
theorem dX11_goes__73 : decode cX11_goes_ 73 = .ok (.iconst 1, 1) := by decide +kernel
theorem dX11_goes__74 : decode cX11_goes_ 74 = .ok (.isub, 1) := by decide +kernel
theorem dX11_goes__75 : decode cX11_goes_ 75 = .ok (.idiv, 1) := by decide +kernel
theorem dX11_goes__76 : decode cX11_goes_ 76 = .ok (.iload_n 3, 1) := by decide +kernel
theorem dX11_goes__77 : decode cX11_goes_ 77 = .ok (.imul, 1) := by decide +kernel
theorem dX11_goes__78 : decode cX11_goes_ 78 = .ok (.iastore, 1) := by decide +kernel
theorem dX11_goes__79 : decode cX11_goes_ 79 = .ok (.iconst 1, 1) := by decide +kernel
theorem dX11_goes__80 : decode cX11_goes_ 80 = .ok (.ireturn, 1) := by decide +kernel
set_option maxHeartbeats 4000000 in
set_option maxRecDepth 100000 in
theorem c_X11_goes__01 (l : Launch) (dC : Nat → ClassId) (dI : Nat → Nat → Nat) (cB cI cJ : ClassId) (sz : Nat) (m0 m_tape m_read m_tets m_primes m_often m_normal m_termM m_termP m_termV m_sumFrom m_sumMany m_part m_fair m_heap m_pickTet m_pickEdge m_base m_baseM m_baseP m_rowsOf m_grid m_times m_boxes m_cameFrom m_cameBy m_steps m_sides m_next m_cube m_ways : Nat) (w9 : Int32) (fn : Nat → Int32) (u0 u1 u2 n : Nat) (hu : (1 ≤ u0 ∧ u0 ≤ 24) ∧ (1 ≤ u1 ∧ u1 ≤ 24) ∧ (1 ≤ u2 ∧ u2 ≤ 24)) (hn : 2 ≤ n ∧ n ≤ 24) (hs : fn 0 = nI u0 ∧ fn 1 = nI u1 ∧ fn 2 = nI u2) : Met l yX11_goes_ wsX11_goes_ ({ frames := 1, cells := 0, slots := 0, locals := 24 }) (va_Pc [.ref m0, .int 0, .int 1, .int (nI n)] (fun U => U.heap.size = sz ∧ va_P (dC, dI) vwCl [(m0, .inr (11, [.int 0, .ref m_tape, .int 0, .int 0, .int 0, .ref m_read, .int 0, .int 0, .int 0, .ref m_tets, .int 0, .int 0, .int 0, .int 0, .int 0, .int 0, .int 0, .int 0, .ref m_primes, .ref m_often, .ref m_normal, .ref m_termM, .ref m_termP, .ref m_termV, .ref m_sumFrom, .ref m_sumMany, .int 0, .int 0, .int 0, .int 0, .ref m_part, .ref m_fair, .ref m_heap, .ref m_pickTet, .ref m_pickEdge, .ref m_base, .ref m_baseM, .ref m_baseP, .ref m_rowsOf, .int 0, .ref m_grid, .ref m_times, .ref m_boxes, .ref m_cameFrom, .ref m_cameBy, .ref m_steps, .ref m_sides, .int w9, .int (-1), .ref m_next, .ref m_cube, .ref m_ways])), (m_next, .inl (cI, 3, (.inl fn)))] U.heap ∧ va_K (dC, dI) vwCl [(cB, .byte), (cI, .int), (cJ, .long)] U ∧ va_D (fun _ => True) [(m0, .inr (11, [.int 0, .ref m_tape, .int 0, .int 0, .int 0, .ref m_read, .int 0, .int 0, .int 0, .ref m_tets, .int 0, .int 0, .int 0, .int 0, .int 0, .int 0, .int 0, .int 0, .ref m_primes, .ref m_often, .ref m_normal, .ref m_termM, .ref m_termP, .ref m_termV, .ref m_sumFrom, .ref m_sumMany, .int 0, .int 0, .int 0, .int 0, .ref m_part, .ref m_fair, .ref m_heap, .ref m_pickTet, .ref m_pickEdge, .ref m_base, .ref m_baseM, .ref m_baseP, .ref m_rowsOf, .int 0, .ref m_grid, .ref m_times, .ref m_boxes, .ref m_cameFrom, .ref m_cameBy, .ref m_steps, .ref m_sides, .int w9, .int (-1), .ref m_next, .ref m_cube, .ref m_ways])), (m_next, .inl (cI, 3, (.inl fn)))])) (va_Qi (fun (r : Int32) (_ : Unit) => (r = 0 ∧ ¬ (sd u0 u1 u2 0 % n = 0 ∧ sd u0 u1 u2 1 % (n - 1) = 0 ∧ sd u0 u1 u2 1 / (n - 1) * n ≤ 24)) ∨ (r = 1 ∧ (sd u0 u1 u2 0 % n = 0 ∧ sd u0 u1 u2 1 % (n - 1) = 0 ∧ sd u0 u1 u2 1 / (n - 1) * n ≤ 24))) (fun _ t => ∃ fz : Nat → Int32, ((sd u0 u1 u2 0 % n = 0 ∧ sd u0 u1 u2 1 % (n - 1) = 0 ∧ sd u0 u1 u2 1 / (n - 1) * n ≤ 24) → fz 0 = nI (u0 / n * (n - 1)) ∧ fz 1 = nI (u1 / (n - 1) * n) ∧ fz 2 = nI (u2)) ∧ va_P (dC, dI) vwCl [(m0, .inr (11, [.int 0, .ref m_tape, .int 0, .int 0, .int 0, .ref m_read, .int 0, .int 0, .int 0, .ref m_tets, .int 0, .int 0, .int 0, .int 0, .int 0, .int 0, .int 0, .int 0, .ref m_primes, .ref m_often, .ref m_normal, .ref m_termM, .ref m_termP, .ref m_termV, .ref m_sumFrom, .ref m_sumMany, .int 0, .int 0, .int 0, .int 0, .ref m_part, .ref m_fair, .ref m_heap, .ref m_pickTet, .ref m_pickEdge, .ref m_base, .ref m_baseM, .ref m_baseP, .ref m_rowsOf, .int 0, .ref m_grid, .ref m_times, .ref m_boxes, .ref m_cameFrom, .ref m_cameBy, .ref m_steps, .ref m_sides, .int w9, .int (-1), .ref m_next, .ref m_cube, .ref m_ways])), (m_next, .inl (cI, 3, (.inl fz)))] t.heap ∧ va_K (dC, dI) vwCl [(cB, .byte), (cI, .int), (cJ, .long)] t ∧ va_D (va_A [(m0, .inr (11, [.int 0, .ref m_tape, .int 0, .int 0, .int 0, .ref m_read, .int 0, .int 0, .int 0, .ref m_tets, .int 0, .int 0, .int 0, .int 0, .int 0, .int 0, .int 0, .int 0, .ref m_primes, .ref m_often, .ref m_normal, .ref m_termM, .ref m_termP, .ref m_termV, .ref m_sumFrom, .ref m_sumMany, .int 0, .int 0, .int 0, .int 0, .ref m_part, .ref m_fair, .ref m_heap, .ref m_pickTet, .ref m_pickEdge, .ref m_base, .ref m_baseM, .ref m_baseP, .ref m_rowsOf, .int 0, .ref m_grid, .ref m_times, .ref m_boxes, .ref m_cameFrom, .ref m_cameBy, .ref m_steps, .ref m_sides, .int w9, .int (-1), .ref m_next, .ref m_cube, .ref m_ways])), (m_next, .inl (cI, 3, (.inl fn)))] sz) [(m0, .inr (11, [.int 0, .ref m_tape, .int 0, .int 0, .int 0, .ref m_read, .int 0, .int 0, .int 0, .ref m_tets, .int 0, .int 0, .int 0, .int 0, .int 0, .int 0, .int 0, .int 0, .ref m_primes, .ref m_often, .ref m_normal, .ref m_termM, .ref m_termP, .ref m_termV, .ref m_sumFrom, .ref m_sumMany, .int 0, .int 0, .int 0, .int 0, .ref m_part, .ref m_fair, .ref m_heap, .ref m_pickTet, .ref m_pickEdge, .ref m_base, .ref m_baseM, .ref m_baseP, .ref m_rowsOf, .int 0, .ref m_grid, .ref m_times, .ref m_boxes, .ref m_cameFrom, .ref m_cameBy, .ref m_steps, .ref m_sides, .int w9, .int (-1), .ref m_next, .ref m_cube, .ref m_ways])), (m_next, .inl (cI, 3, (.inl fz)))]) (va_A [(m0, .inr (11, [.int 0, .ref m_tape, .int 0, .int 0, .int 0, .ref m_read, .int 0, .int 0, .int 0, .ref m_tets, .int 0, .int 0, .int 0, .int 0, .int 0, .int 0, .int 0, .int 0, .ref m_primes, .ref m_often, .ref m_normal, .ref m_termM, .ref m_termP, .ref m_termV, .ref m_sumFrom, .ref m_sumMany, .int 0, .int 0, .int 0, .int 0, .ref m_part, .ref m_fair, .ref m_heap, .ref m_pickTet, .ref m_pickEdge, .ref m_base, .ref m_baseM, .ref m_baseP, .ref m_rowsOf, .int 0, .ref m_grid, .ref m_times, .ref m_boxes, .ref m_cameFrom, .ref m_cameBy, .ref m_steps, .ref m_sides, .int w9, .int (-1), .ref m_next, .ref m_cube, .ref m_ways])), (m_next, .inl (cI, 3, (.inl fn)))] sz)) 0 0 (va_A [(m0, .inr (11, [.int 0, .ref m_tape, .int 0, .int 0, .int 0, .ref m_read, .int 0, .int 0, .int 0, .ref m_tets, .int 0, .int 0, .int 0, .int 0, .int 0, .int 0, .int 0, .int 0, .ref m_primes, .ref m_often, .ref m_normal, .ref m_termM, .ref m_termP, .ref m_termV, .ref m_sumFrom, .ref m_sumMany, .int 0, .int 0, .int 0, .int 0, .ref m_part, .ref m_fair, .ref m_heap, .ref m_pickTet, .ref m_pickEdge, .ref m_base, .ref m_baseM, .ref m_baseP, .ref m_rowsOf, .int 0, .ref m_grid, .ref m_times, .ref m_boxes, .ref m_cameFrom, .ref m_cameBy, .ref m_steps, .ref m_sides, .int w9, .int (-1), .ref m_next, .ref m_cube, .ref m_ways])), (m_next, .inl (cI, 3, (.inl fn)))] sz) := by
  refine Met.ofW (cc := cX11_goes_) (maxL := 4) (ret := (some .boolean)) (by decide) rfl ?_
  intro p e s m args below meth c s₁ B hml hv
  obtain ⟨rfl, hsz, hP, hK, hD0⟩ := hv
  have hx := B.exec
  have hb := B.bytes
  have hr := B.returns
  have hts := atoms_spec (ws := wsX11_goes_) B.pre
  have hown : s.vm.findClass RX11 = some m.cls := findClass_of_methodNamed B.named
  have hlocks := B.notSynchronized
  have hiX11 : ∀ w ∈ u_ws RX11 TX11 52, w ∈ wsX11_goes_ := by decide +kernel
  subst hsz
  have hD := hD0.self (sz := s.heap.size)
  generalize hAe : va_A [(m0, .inr (11, [.int 0, .ref m_tape, .int 0, .int 0, .int 0, .ref m_read, .int 0, .int 0, .int 0, .ref m_tets, .int 0, .int 0, .int 0, .int 0, .int 0, .int 0, .int 0, .int 0, .ref m_primes, .ref m_often, .ref m_normal, .ref m_termM, .ref m_termP, .ref m_termV, .ref m_sumFrom, .ref m_sumMany, .int 0, .int 0, .int 0, .int 0, .ref m_part, .ref m_fair, .ref m_heap, .ref m_pickTet, .ref m_pickEdge, .ref m_base, .ref m_baseM, .ref m_baseP, .ref m_rowsOf, .int 0, .ref m_grid, .ref m_times, .ref m_boxes, .ref m_cameFrom, .ref m_cameBy, .ref m_steps, .ref m_sides, .int w9, .int (-1), .ref m_next, .ref m_cube, .ref m_ways])), (m_next, .inl (cI, 3, (.inl fn)))] s.heap.size = A at hD ⊢
  have hA : ∀ q : Nat, s.heap.size ≤ q → A q := fun q h => by rw [← hAe]; exact Or.inr h
  have hS : va_S A s.heap s.heap [] := va_S.rf
  have hP : va_P (dC, dI) vwCl [(m0, .inr (11, [.int 0, .ref m_tape, .int 0, .int 0, .int 0, .ref m_read, .int 0, .int 0, .int 0, .ref m_tets, .int 0, .int 0, .int 0, .int 0, .int 0, .int 0, .int 0, .int 0, .ref m_primes, .ref m_often, .ref m_normal, .ref m_termM, .ref m_termP, .ref m_termV, .ref m_sumFrom, .ref m_sumMany, .int 0, .int 0, .int 0, .int 0, .ref m_part, .ref m_fair, .ref m_heap, .ref m_pickTet, .ref m_pickEdge, .ref m_base, .ref m_baseM, .ref m_baseP, .ref m_rowsOf, .int 0, .ref m_grid, .ref m_times, .ref m_boxes, .ref m_cameFrom, .ref m_cameBy, .ref m_steps, .ref m_sides, .int w9, .int (-1), .ref m_next, .ref m_cube, .ref m_ways])), (m_next, .inl (cI, 3, (.inl fn)))] s.heap := hP
  have hl := lv_entry ([.ref m0, .int 0, .int 1, .int (nI n)]) (n := 4) (Nat.le_of_ble_eq_true rfl)
  rw [lg_entry_eq]
  generalize (lg_sl ([.ref m0, .int 0, .int 1, .int (nI n)]) ++ List.replicate (4 - (lg_sl ([.ref m0, .int 0, .int 1, .int (nI n)])).length) Slot.unset).toArray = ls at hl ⊢
  have hl : lv_has ls 4 [(0, .ref m0), (1, .int 0), (2, .int 1), (3, .int (nI n))] := hl
  have r1 : u0 % n ≤ 24 := Nat.le_trans (Nat.mod_le _ _) (by omega)
  have r2 : u1 % (n - 1) ≤ 24 := Nat.le_trans (Nat.mod_le _ _) (by omega)
  refine lv_aload_n hx hb dX11_goes__0 rfl (lv_at hl 0 rfl) ?_
  refine va_get (D := (dC, dI)) (ci := 11) (v := .ref m_next) (C := RX11) (T := TX11) (N := 52) hx hb hts hiX11 hown hK hP 0 rfl rfl 49 (by decide) (hts (.fieldLink RX11 97 "ScissorsTableModel" "next" "[I") (by decide +kernel)) (fun _ h9 => h9) rfl dX11_goes__1 ?_
  refine lv_iload_n hx hb dX11_goes__4 rfl (lv_at hl 1 rfl) ?_
  refine va_iald hx hb hK hP 1 1 rfl rfl (by show ¬ (_ ∨ _); decide) dX11_goes__5 ?_
  refine lv_topi (fun x_1 ex_1 => ?_)
  have ex_1 : x_1 = fn 0 := ex_1
  obtain rfl : x_1 = nI u0 := ex_1.trans hs.1
  refine lv_iload_n hx hb dX11_goes__6 rfl (lv_at hl 3 rfl) ?_
  refine lv_irem hx hb dX11_goes__7 (nI_ne0 (by omega) (by omega)) ?_
  refine lv_topi (fun x_2 ex_2 => ?_)
  obtain rfl : x_2 = nI (u0 % n) := ex_2.trans (pk_rem (a := u0) (d := n) (by omega) (by omega) (by omega))
  refine lv_if_ne (tgt := 41) hx hb dX11_goes__8 (by decide) (fun c_3 => ?_) (fun c_3 => ?_)
  · have c_3 : ¬ (u0 % n) = 0 := fun q9 => c_3 ((nI_eq (a := u0 % n) (b := 0) (by omega) (by omega)).mpr q9)
    refine lv_iconst (v := 0) hx hb dX11_goes__41 (by decide) ?_
    have hP9 := hP.sub (ws' := [(m0, .inr (11, [.int 0, .ref m_tape, .int 0, .int 0, .int 0, .ref m_read, .int 0, .int 0, .int 0, .ref m_tets, .int 0, .int 0, .int 0, .int 0, .int 0, .int 0, .int 0, .int 0, .ref m_primes, .ref m_often, .ref m_normal, .ref m_termM, .ref m_termP, .ref m_termV, .ref m_sumFrom, .ref m_sumMany, .int 0, .int 0, .int 0, .int 0, .ref m_part, .ref m_fair, .ref m_heap, .ref m_pickTet, .ref m_pickEdge, .ref m_base, .ref m_baseM, .ref m_baseP, .ref m_rowsOf, .int 0, .ref m_grid, .ref m_times, .ref m_boxes, .ref m_cameFrom, .ref m_cameBy, .ref m_steps, .ref m_sides, .int w9, .int (-1), .ref m_next, .ref m_cube, .ref m_ways])), (m_next, .inl (cI, 3, (.inl fn)))]) [0, 1] rfl
    have hD9 := hD.sub (ws' := [(m0, .inr (11, [.int 0, .ref m_tape, .int 0, .int 0, .int 0, .ref m_read, .int 0, .int 0, .int 0, .ref m_tets, .int 0, .int 0, .int 0, .int 0, .int 0, .int 0, .int 0, .int 0, .ref m_primes, .ref m_often, .ref m_normal, .ref m_termM, .ref m_termP, .ref m_termV, .ref m_sumFrom, .ref m_sumMany, .int 0, .int 0, .int 0, .int 0, .ref m_part, .ref m_fair, .ref m_heap, .ref m_pickTet, .ref m_pickEdge, .ref m_base, .ref m_baseM, .ref m_baseP, .ref m_rowsOf, .int 0, .ref m_grid, .ref m_times, .ref m_boxes, .ref m_cameFrom, .ref m_cameBy, .ref m_steps, .ref m_sides, .int w9, .int (-1), .ref m_next, .ref m_cube, .ref m_ways])), (m_next, .inl (cI, 3, (.inl fn)))]) [0, 1] (by decide) rfl
    refine W.widen (k := 0) (n := 0) (Nat.le_of_ble_eq_true rfl) (Nat.le_of_ble_eq_true rfl) ?_
    exact W.zret (v := 0) hx hb hr (by decide) (fun t ht hW => ⟨⟨0, (), rfl, (Or.inl ⟨rfl, (fun h9 => c_3 h9.1)⟩), fn, (fun h9 => absurd h9 (fun h9 => c_3 h9.1)), by rw [ht]; exact hP9, va_K.moved hW.alike hK, hD9⟩, hS.F ht⟩) hS.2.2 dX11_goes__42
  · have c_3 : (u0 % n) = 0 := (nI_eq (a := u0 % n) (b := 0) (by omega) (by omega)).mp c_3
    refine lv_aload_n hx hb dX11_goes__11 rfl (lv_at hl 0 rfl) ?_
    refine va_get (D := (dC, dI)) (ci := 11) (v := .ref m_next) (C := RX11) (T := TX11) (N := 52) hx hb hts hiX11 hown hK hP 0 rfl rfl 49 (by decide) (hts (.fieldLink RX11 97 "ScissorsTableModel" "next" "[I") (by decide +kernel)) (fun _ h9 => h9) rfl dX11_goes__12 ?_
    refine lv_iload_n hx hb dX11_goes__15 rfl (lv_at hl 2 rfl) ?_
    refine va_iald hx hb hK hP 1 1 rfl rfl (by show ¬ (_ ∨ _); decide) dX11_goes__16 ?_
    refine lv_topi (fun x_4 ex_4 => ?_)
    have ex_4 : x_4 = fn 1 := ex_4
    obtain rfl : x_4 = nI u1 := ex_4.trans hs.2.1
    refine lv_iload_n hx hb dX11_goes__17 rfl (lv_at hl 3 rfl) ?_
    refine lv_iconst (v := 1) hx hb dX11_goes__18 (by decide) ?_
    refine lv_isub hx hb dX11_goes__19 ?_
    refine lv_topi (fun x_5 ex_5 => ?_)
    obtain rfl : x_5 = nI (n - 1) := ex_5.trans (pk_sub (a := n) (b := 1) (by omega))
    refine lv_irem hx hb dX11_goes__20 (nI_ne0 (by omega) (by omega)) ?_
    refine lv_topi (fun x_6 ex_6 => ?_)
    obtain rfl : x_6 = nI (u1 % (n - 1)) := ex_6.trans (pk_rem (a := u1) (d := n - 1) (by omega) (by omega) (by omega))
    refine lv_if_ne (tgt := 41) hx hb dX11_goes__21 (by decide) (fun c_7 => ?_) (fun c_7 => ?_)
    · have c_7 : ¬ (u1 % (n - 1)) = 0 := fun q9 => c_7 ((nI_eq (a := u1 % (n - 1)) (b := 0) (by omega) (by omega)).mpr q9)
      refine lv_iconst (v := 0) hx hb dX11_goes__41 (by decide) ?_
      have hP9 := hP.sub (ws' := [(m0, .inr (11, [.int 0, .ref m_tape, .int 0, .int 0, .int 0, .ref m_read, .int 0, .int 0, .int 0, .ref m_tets, .int 0, .int 0, .int 0, .int 0, .int 0, .int 0, .int 0, .int 0, .ref m_primes, .ref m_often, .ref m_normal, .ref m_termM, .ref m_termP, .ref m_termV, .ref m_sumFrom, .ref m_sumMany, .int 0, .int 0, .int 0, .int 0, .ref m_part, .ref m_fair, .ref m_heap, .ref m_pickTet, .ref m_pickEdge, .ref m_base, .ref m_baseM, .ref m_baseP, .ref m_rowsOf, .int 0, .ref m_grid, .ref m_times, .ref m_boxes, .ref m_cameFrom, .ref m_cameBy, .ref m_steps, .ref m_sides, .int w9, .int (-1), .ref m_next, .ref m_cube, .ref m_ways])), (m_next, .inl (cI, 3, (.inl fn)))]) [0, 1] rfl
      have hD9 := hD.sub (ws' := [(m0, .inr (11, [.int 0, .ref m_tape, .int 0, .int 0, .int 0, .ref m_read, .int 0, .int 0, .int 0, .ref m_tets, .int 0, .int 0, .int 0, .int 0, .int 0, .int 0, .int 0, .int 0, .ref m_primes, .ref m_often, .ref m_normal, .ref m_termM, .ref m_termP, .ref m_termV, .ref m_sumFrom, .ref m_sumMany, .int 0, .int 0, .int 0, .int 0, .ref m_part, .ref m_fair, .ref m_heap, .ref m_pickTet, .ref m_pickEdge, .ref m_base, .ref m_baseM, .ref m_baseP, .ref m_rowsOf, .int 0, .ref m_grid, .ref m_times, .ref m_boxes, .ref m_cameFrom, .ref m_cameBy, .ref m_steps, .ref m_sides, .int w9, .int (-1), .ref m_next, .ref m_cube, .ref m_ways])), (m_next, .inl (cI, 3, (.inl fn)))]) [0, 1] (by decide) rfl
      refine W.widen (k := 0) (n := 0) (Nat.le_of_ble_eq_true rfl) (Nat.le_of_ble_eq_true rfl) ?_
      exact W.zret (v := 0) hx hb hr (by decide) (fun t ht hW => ⟨⟨0, (), rfl, (Or.inl ⟨rfl, (fun h9 => c_7 h9.2.1)⟩), fn, (fun h9 => absurd h9 (fun h9 => c_7 h9.2.1)), by rw [ht]; exact hP9, va_K.moved hW.alike hK, hD9⟩, hS.F ht⟩) hS.2.2 dX11_goes__42
    · have c_7 : (u1 % (n - 1)) = 0 := (nI_eq (a := u1 % (n - 1)) (b := 0) (by omega) (by omega)).mp c_7
      have hdl : u1 / (n - 1) * n ≤ 24 * 24 := Nat.mul_le_mul (Nat.le_trans (Nat.div_le_self _ _) (by omega)) hn.2
      refine lv_aload_n hx hb dX11_goes__24 rfl (lv_at hl 0 rfl) ?_
      refine va_get (D := (dC, dI)) (ci := 11) (v := .ref m_next) (C := RX11) (T := TX11) (N := 52) hx hb hts hiX11 hown hK hP 0 rfl rfl 49 (by decide) (hts (.fieldLink RX11 97 "ScissorsTableModel" "next" "[I") (by decide +kernel)) (fun _ h9 => h9) rfl dX11_goes__25 ?_
      refine lv_iload_n hx hb dX11_goes__28 rfl (lv_at hl 2 rfl) ?_
      refine va_iald hx hb hK hP 1 1 rfl rfl (by show ¬ (_ ∨ _); decide) dX11_goes__29 ?_
      refine lv_topi (fun x_8 ex_8 => ?_)
      have ex_8 : x_8 = fn 1 := ex_8
      obtain rfl : x_8 = nI u1 := ex_8.trans hs.2.1
      refine lv_iload_n hx hb dX11_goes__30 rfl (lv_at hl 3 rfl) ?_
      refine lv_iconst (v := 1) hx hb dX11_goes__31 (by decide) ?_
      refine lv_isub hx hb dX11_goes__32 ?_
      refine lv_topi (fun x_9 ex_9 => ?_)
      obtain rfl : x_9 = nI (n - 1) := ex_9.trans (pk_sub (a := n) (b := 1) (by omega))
      refine lv_idiv hx hb dX11_goes__33 (nI_ne0 (by omega) (by omega)) ?_
      refine lv_topi (fun x_10 ex_10 => ?_)
      obtain rfl : x_10 = nI (u1 / (n - 1)) := ex_10.trans (pk_div (a := u1) (d := n - 1) (by omega) (by omega) (by omega))
      refine lv_iload_n hx hb dX11_goes__34 rfl (lv_at hl 3 rfl) ?_
      refine lv_imul hx hb dX11_goes__35 ?_
      refine lv_topi (fun x_11 ex_11 => ?_)
      obtain rfl : x_11 = nI ((u1 / (n - 1)) * n) := ex_11.trans (pk_mul (u1 / (n - 1)) n)
      refine lv_bipush (v := 24) hx hb dX11_goes__36 (by decide) ?_
      refine lv_icmp_le (tgt := 43) hx hb dX11_goes__38 (by decide) (fun c_12 => ?_) (fun c_12 => ?_)
      · have c_12 : ((u1 / (n - 1)) * n) ≤ 24 := (nI_leI (a := (u1 / (n - 1)) * n) (b := 24) (by omega) (by omega)).mp c_12
        refine lv_aload_n hx hb dX11_goes__43 rfl (lv_at hl 0 rfl) ?_
        refine va_get (D := (dC, dI)) (ci := 11) (v := .ref m_next) (C := RX11) (T := TX11) (N := 52) hx hb hts hiX11 hown hK hP 0 rfl rfl 49 (by decide) (hts (.fieldLink RX11 97 "ScissorsTableModel" "next" "[I") (by decide +kernel)) (fun _ h9 => h9) rfl dX11_goes__44 ?_
        refine lv_iload_n hx hb dX11_goes__47 rfl (lv_at hl 1 rfl) ?_
        refine lv_aload_n hx hb dX11_goes__48 rfl (lv_at hl 0 rfl) ?_
        refine va_get (D := (dC, dI)) (ci := 11) (v := .ref m_next) (C := RX11) (T := TX11) (N := 52) hx hb hts hiX11 hown hK hP 0 rfl rfl 49 (by decide) (hts (.fieldLink RX11 97 "ScissorsTableModel" "next" "[I") (by decide +kernel)) (fun _ h9 => h9) rfl dX11_goes__49 ?_
        refine lv_iload_n hx hb dX11_goes__52 rfl (lv_at hl 1 rfl) ?_
        refine va_iald hx hb hK hP 1 1 rfl rfl (by show ¬ (_ ∨ _); decide) dX11_goes__53 ?_
        refine lv_topi (fun x_13 ex_13 => ?_)
        have ex_13 : x_13 = fn 0 := ex_13
        obtain rfl : x_13 = nI u0 := ex_13.trans hs.1
        refine lv_iload_n hx hb dX11_goes__54 rfl (lv_at hl 3 rfl) ?_
        refine lv_idiv hx hb dX11_goes__55 (nI_ne0 (by omega) (by omega)) ?_
        refine lv_topi (fun x_14 ex_14 => ?_)
        obtain rfl : x_14 = nI (u0 / n) := ex_14.trans (pk_div (a := u0) (d := n) (by omega) (by omega) (by omega))
        refine lv_iload_n hx hb dX11_goes__56 rfl (lv_at hl 3 rfl) ?_
        refine lv_iconst (v := 1) hx hb dX11_goes__57 (by decide) ?_
        refine lv_isub hx hb dX11_goes__58 ?_
        refine lv_topi (fun x_15 ex_15 => ?_)
        obtain rfl : x_15 = nI (n - 1) := ex_15.trans (pk_sub (a := n) (b := 1) (by omega))
        refine lv_imul hx hb dX11_goes__59 ?_
        refine lv_topi (fun x_16 ex_16 => ?_)
        obtain rfl : x_16 = nI ((u0 / n) * (n - 1)) := ex_16.trans (pk_mul (u0 / n) (n - 1))
        refine va_iast hx hb hK hP hD hS 1 1 rfl rfl (by show ¬ (_ ∨ _); decide) dX11_goes__60 (fun H locs hP hD hS => ?_)
        rw [show (0 : Int32).toNatClampNeg = 0 from rfl] at hP hD
        have hP : va_P (dC, dI) vwCl [(m0, .inr (11, [.int 0, .ref m_tape, .int 0, .int 0, .int 0, .ref m_read, .int 0, .int 0, .int 0, .ref m_tets, .int 0, .int 0, .int 0, .int 0, .int 0, .int 0, .int 0, .int 0, .ref m_primes, .ref m_often, .ref m_normal, .ref m_termM, .ref m_termP, .ref m_termV, .ref m_sumFrom, .ref m_sumMany, .int 0, .int 0, .int 0, .int 0, .ref m_part, .ref m_fair, .ref m_heap, .ref m_pickTet, .ref m_pickEdge, .ref m_base, .ref m_baseM, .ref m_baseP, .ref m_rowsOf, .int 0, .ref m_grid, .ref m_times, .ref m_boxes, .ref m_cameFrom, .ref m_cameBy, .ref m_steps, .ref m_sides, .int w9, .int (-1), .ref m_next, .ref m_cube, .ref m_ways])), (m_next, .inl (cI, 3, (.inl (upd fn 0 (nI ((u0 / n) * (n - 1)))))))] H := hP
        have hD : va_D A [(m0, .inr (11, [.int 0, .ref m_tape, .int 0, .int 0, .int 0, .ref m_read, .int 0, .int 0, .int 0, .ref m_tets, .int 0, .int 0, .int 0, .int 0, .int 0, .int 0, .int 0, .int 0, .ref m_primes, .ref m_often, .ref m_normal, .ref m_termM, .ref m_termP, .ref m_termV, .ref m_sumFrom, .ref m_sumMany, .int 0, .int 0, .int 0, .int 0, .ref m_part, .ref m_fair, .ref m_heap, .ref m_pickTet, .ref m_pickEdge, .ref m_base, .ref m_baseM, .ref m_baseP, .ref m_rowsOf, .int 0, .ref m_grid, .ref m_times, .ref m_boxes, .ref m_cameFrom, .ref m_cameBy, .ref m_steps, .ref m_sides, .int w9, .int (-1), .ref m_next, .ref m_cube, .ref m_ways])), (m_next, .inl (cI, 3, (.inl (upd fn 0 (nI ((u0 / n) * (n - 1)))))))] := hD
        refine lv_aload_n hx hb dX11_goes__61 rfl (lv_at hl 0 rfl) ?_
        refine va_get (D := (dC, dI)) (ci := 11) (v := .ref m_next) (C := RX11) (T := TX11) (N := 52) hx hb hts hiX11 hown hK hP 0 rfl rfl 49 (by decide) (hts (.fieldLink RX11 97 "ScissorsTableModel" "next" "[I") (by decide +kernel)) (fun _ h9 => h9) rfl dX11_goes__62 ?_
        refine lv_iload_n hx hb dX11_goes__65 rfl (lv_at hl 2 rfl) ?_
        refine lv_aload_n hx hb dX11_goes__66 rfl (lv_at hl 0 rfl) ?_
        refine va_get (D := (dC, dI)) (ci := 11) (v := .ref m_next) (C := RX11) (T := TX11) (N := 52) hx hb hts hiX11 hown hK hP 0 rfl rfl 49 (by decide) (hts (.fieldLink RX11 97 "ScissorsTableModel" "next" "[I") (by decide +kernel)) (fun _ h9 => h9) rfl dX11_goes__67 ?_
        refine lv_iload_n hx hb dX11_goes__70 rfl (lv_at hl 2 rfl) ?_
        refine va_iald hx hb hK hP 1 1 rfl rfl (by show ¬ (_ ∨ _); decide) dX11_goes__71 ?_
        refine lv_topi (fun x_17 ex_17 => ?_)
        have ex_17 : x_17 = (upd fn 0 (nI ((u0 / n) * (n - 1)))) 1 := ex_17
        obtain rfl : x_17 = nI u1 := ex_17.trans ((pk_un (by decide)).trans hs.2.1)
        refine lv_iload_n hx hb dX11_goes__72 rfl (lv_at hl 3 rfl) ?_
        refine lv_iconst (v := 1) hx hb dX11_goes__73 (by decide) ?_
        refine lv_isub hx hb dX11_goes__74 ?_
        refine lv_topi (fun x_18 ex_18 => ?_)
        obtain rfl : x_18 = nI (n - 1) := ex_18.trans (pk_sub (a := n) (b := 1) (by omega))
        refine lv_idiv hx hb dX11_goes__75 (nI_ne0 (by omega) (by omega)) ?_
        refine lv_topi (fun x_19 ex_19 => ?_)
        obtain rfl : x_19 = nI (u1 / (n - 1)) := ex_19.trans (pk_div (a := u1) (d := n - 1) (by omega) (by omega) (by omega))
        refine lv_iload_n hx hb dX11_goes__76 rfl (lv_at hl 3 rfl) ?_
        refine lv_imul hx hb dX11_goes__77 ?_
        refine lv_topi (fun x_20 ex_20 => ?_)
        obtain rfl : x_20 = nI ((u1 / (n - 1)) * n) := ex_20.trans (pk_mul (u1 / (n - 1)) n)
        refine va_iast hx hb hK hP hD hS 1 1 rfl rfl (by show ¬ (_ ∨ _); decide) dX11_goes__78 (fun H locs hP hD hS => ?_)
        rw [show (1 : Int32).toNatClampNeg = 1 from rfl] at hP hD
        have hP : va_P (dC, dI) vwCl [(m0, .inr (11, [.int 0, .ref m_tape, .int 0, .int 0, .int 0, .ref m_read, .int 0, .int 0, .int 0, .ref m_tets, .int 0, .int 0, .int 0, .int 0, .int 0, .int 0, .int 0, .int 0, .ref m_primes, .ref m_often, .ref m_normal, .ref m_termM, .ref m_termP, .ref m_termV, .ref m_sumFrom, .ref m_sumMany, .int 0, .int 0, .int 0, .int 0, .ref m_part, .ref m_fair, .ref m_heap, .ref m_pickTet, .ref m_pickEdge, .ref m_base, .ref m_baseM, .ref m_baseP, .ref m_rowsOf, .int 0, .ref m_grid, .ref m_times, .ref m_boxes, .ref m_cameFrom, .ref m_cameBy, .ref m_steps, .ref m_sides, .int w9, .int (-1), .ref m_next, .ref m_cube, .ref m_ways])), (m_next, .inl (cI, 3, (.inl (upd (upd fn 0 (nI ((u0 / n) * (n - 1)))) 1 (nI ((u1 / (n - 1)) * n))))))] H := hP
        have hD : va_D A [(m0, .inr (11, [.int 0, .ref m_tape, .int 0, .int 0, .int 0, .ref m_read, .int 0, .int 0, .int 0, .ref m_tets, .int 0, .int 0, .int 0, .int 0, .int 0, .int 0, .int 0, .int 0, .ref m_primes, .ref m_often, .ref m_normal, .ref m_termM, .ref m_termP, .ref m_termV, .ref m_sumFrom, .ref m_sumMany, .int 0, .int 0, .int 0, .int 0, .ref m_part, .ref m_fair, .ref m_heap, .ref m_pickTet, .ref m_pickEdge, .ref m_base, .ref m_baseM, .ref m_baseP, .ref m_rowsOf, .int 0, .ref m_grid, .ref m_times, .ref m_boxes, .ref m_cameFrom, .ref m_cameBy, .ref m_steps, .ref m_sides, .int w9, .int (-1), .ref m_next, .ref m_cube, .ref m_ways])), (m_next, .inl (cI, 3, (.inl (upd (upd fn 0 (nI ((u0 / n) * (n - 1)))) 1 (nI ((u1 / (n - 1)) * n))))))] := hD
        refine lv_iconst (v := 1) hx hb dX11_goes__79 (by decide) ?_
        have hP9 := hP.sub (ws' := [(m0, .inr (11, [.int 0, .ref m_tape, .int 0, .int 0, .int 0, .ref m_read, .int 0, .int 0, .int 0, .ref m_tets, .int 0, .int 0, .int 0, .int 0, .int 0, .int 0, .int 0, .int 0, .ref m_primes, .ref m_often, .ref m_normal, .ref m_termM, .ref m_termP, .ref m_termV, .ref m_sumFrom, .ref m_sumMany, .int 0, .int 0, .int 0, .int 0, .ref m_part, .ref m_fair, .ref m_heap, .ref m_pickTet, .ref m_pickEdge, .ref m_base, .ref m_baseM, .ref m_baseP, .ref m_rowsOf, .int 0, .ref m_grid, .ref m_times, .ref m_boxes, .ref m_cameFrom, .ref m_cameBy, .ref m_steps, .ref m_sides, .int w9, .int (-1), .ref m_next, .ref m_cube, .ref m_ways])), (m_next, .inl (cI, 3, (.inl (upd (upd fn 0 (nI ((u0 / n) * (n - 1)))) 1 (nI ((u1 / (n - 1)) * n))))))]) [0, 1] rfl
        have hD9 := hD.sub (ws' := [(m0, .inr (11, [.int 0, .ref m_tape, .int 0, .int 0, .int 0, .ref m_read, .int 0, .int 0, .int 0, .ref m_tets, .int 0, .int 0, .int 0, .int 0, .int 0, .int 0, .int 0, .int 0, .ref m_primes, .ref m_often, .ref m_normal, .ref m_termM, .ref m_termP, .ref m_termV, .ref m_sumFrom, .ref m_sumMany, .int 0, .int 0, .int 0, .int 0, .ref m_part, .ref m_fair, .ref m_heap, .ref m_pickTet, .ref m_pickEdge, .ref m_base, .ref m_baseM, .ref m_baseP, .ref m_rowsOf, .int 0, .ref m_grid, .ref m_times, .ref m_boxes, .ref m_cameFrom, .ref m_cameBy, .ref m_steps, .ref m_sides, .int w9, .int (-1), .ref m_next, .ref m_cube, .ref m_ways])), (m_next, .inl (cI, 3, (.inl (upd (upd fn 0 (nI ((u0 / n) * (n - 1)))) 1 (nI ((u1 / (n - 1)) * n))))))]) [0, 1] (by decide) rfl
        refine W.widen (k := 0) (n := 0) (Nat.le_of_ble_eq_true rfl) (Nat.le_of_ble_eq_true rfl) ?_
        exact W.zret (v := 1) hx hb hr (by decide) (fun t ht hW => ⟨⟨1, (), rfl, (Or.inr ⟨rfl, ⟨c_3, c_7, c_12⟩⟩), (upd (upd fn 0 (nI ((u0 / n) * (n - 1)))) 1 (nI ((u1 / (n - 1)) * n))), (fun _ => ⟨(pk_un (by decide)).trans pk_us, pk_us, (pk_un (by decide)).trans ((pk_un (by decide)).trans hs.2.2)⟩), by rw [ht]; exact hP9, va_K.moved hW.alike hK, hD9⟩, hS.F ht⟩) hS.2.2 dX11_goes__80
      · have c_12 : ¬ ((u1 / (n - 1)) * n) ≤ 24 := fun q9 => c_12 ((nI_leI (a := (u1 / (n - 1)) * n) (b := 24) (by omega) (by omega)).mpr q9)
        refine lv_iconst (v := 0) hx hb dX11_goes__41 (by decide) ?_
        have hP9 := hP.sub (ws' := [(m0, .inr (11, [.int 0, .ref m_tape, .int 0, .int 0, .int 0, .ref m_read, .int 0, .int 0, .int 0, .ref m_tets, .int 0, .int 0, .int 0, .int 0, .int 0, .int 0, .int 0, .int 0, .ref m_primes, .ref m_often, .ref m_normal, .ref m_termM, .ref m_termP, .ref m_termV, .ref m_sumFrom, .ref m_sumMany, .int 0, .int 0, .int 0, .int 0, .ref m_part, .ref m_fair, .ref m_heap, .ref m_pickTet, .ref m_pickEdge, .ref m_base, .ref m_baseM, .ref m_baseP, .ref m_rowsOf, .int 0, .ref m_grid, .ref m_times, .ref m_boxes, .ref m_cameFrom, .ref m_cameBy, .ref m_steps, .ref m_sides, .int w9, .int (-1), .ref m_next, .ref m_cube, .ref m_ways])), (m_next, .inl (cI, 3, (.inl fn)))]) [0, 1] rfl
        have hD9 := hD.sub (ws' := [(m0, .inr (11, [.int 0, .ref m_tape, .int 0, .int 0, .int 0, .ref m_read, .int 0, .int 0, .int 0, .ref m_tets, .int 0, .int 0, .int 0, .int 0, .int 0, .int 0, .int 0, .int 0, .ref m_primes, .ref m_often, .ref m_normal, .ref m_termM, .ref m_termP, .ref m_termV, .ref m_sumFrom, .ref m_sumMany, .int 0, .int 0, .int 0, .int 0, .ref m_part, .ref m_fair, .ref m_heap, .ref m_pickTet, .ref m_pickEdge, .ref m_base, .ref m_baseM, .ref m_baseP, .ref m_rowsOf, .int 0, .ref m_grid, .ref m_times, .ref m_boxes, .ref m_cameFrom, .ref m_cameBy, .ref m_steps, .ref m_sides, .int w9, .int (-1), .ref m_next, .ref m_cube, .ref m_ways])), (m_next, .inl (cI, 3, (.inl fn)))]) [0, 1] (by decide) rfl
        refine W.widen (k := 0) (n := 0) (Nat.le_of_ble_eq_true rfl) (Nat.le_of_ble_eq_true rfl) ?_
        exact W.zret (v := 0) hx hb hr (by decide) (fun t ht hW => ⟨⟨0, (), rfl, (Or.inl ⟨rfl, (fun h9 => c_12 h9.2.2)⟩), fn, (fun h9 => absurd h9 (fun h9 => c_12 h9.2.2)), by rw [ht]; exact hP9, va_K.moved hW.alike hK, hD9⟩, hS.F ht⟩) hS.2.2 dX11_goes__42
set_option maxHeartbeats 4000000 in
set_option maxRecDepth 100000 in
theorem c_X11_goes__02 (l : Launch) (dC : Nat → ClassId) (dI : Nat → Nat → Nat) (cB cI cJ : ClassId) (sz : Nat) (m0 m_tape m_read m_tets m_primes m_often m_normal m_termM m_termP m_termV m_sumFrom m_sumMany m_part m_fair m_heap m_pickTet m_pickEdge m_base m_baseM m_baseP m_rowsOf m_grid m_times m_boxes m_cameFrom m_cameBy m_steps m_sides m_next m_cube m_ways : Nat) (w9 : Int32) (fn : Nat → Int32) (u0 u1 u2 n : Nat) (hu : (1 ≤ u0 ∧ u0 ≤ 24) ∧ (1 ≤ u1 ∧ u1 ≤ 24) ∧ (1 ≤ u2 ∧ u2 ≤ 24)) (hn : 2 ≤ n ∧ n ≤ 24) (hs : fn 0 = nI u0 ∧ fn 1 = nI u1 ∧ fn 2 = nI u2) : Met l yX11_goes_ wsX11_goes_ ({ frames := 1, cells := 0, slots := 0, locals := 24 }) (va_Pc [.ref m0, .int 0, .int 2, .int (nI n)] (fun U => U.heap.size = sz ∧ va_P (dC, dI) vwCl [(m0, .inr (11, [.int 0, .ref m_tape, .int 0, .int 0, .int 0, .ref m_read, .int 0, .int 0, .int 0, .ref m_tets, .int 0, .int 0, .int 0, .int 0, .int 0, .int 0, .int 0, .int 0, .ref m_primes, .ref m_often, .ref m_normal, .ref m_termM, .ref m_termP, .ref m_termV, .ref m_sumFrom, .ref m_sumMany, .int 0, .int 0, .int 0, .int 0, .ref m_part, .ref m_fair, .ref m_heap, .ref m_pickTet, .ref m_pickEdge, .ref m_base, .ref m_baseM, .ref m_baseP, .ref m_rowsOf, .int 0, .ref m_grid, .ref m_times, .ref m_boxes, .ref m_cameFrom, .ref m_cameBy, .ref m_steps, .ref m_sides, .int w9, .int (-1), .ref m_next, .ref m_cube, .ref m_ways])), (m_next, .inl (cI, 3, (.inl fn)))] U.heap ∧ va_K (dC, dI) vwCl [(cB, .byte), (cI, .int), (cJ, .long)] U ∧ va_D (fun _ => True) [(m0, .inr (11, [.int 0, .ref m_tape, .int 0, .int 0, .int 0, .ref m_read, .int 0, .int 0, .int 0, .ref m_tets, .int 0, .int 0, .int 0, .int 0, .int 0, .int 0, .int 0, .int 0, .ref m_primes, .ref m_often, .ref m_normal, .ref m_termM, .ref m_termP, .ref m_termV, .ref m_sumFrom, .ref m_sumMany, .int 0, .int 0, .int 0, .int 0, .ref m_part, .ref m_fair, .ref m_heap, .ref m_pickTet, .ref m_pickEdge, .ref m_base, .ref m_baseM, .ref m_baseP, .ref m_rowsOf, .int 0, .ref m_grid, .ref m_times, .ref m_boxes, .ref m_cameFrom, .ref m_cameBy, .ref m_steps, .ref m_sides, .int w9, .int (-1), .ref m_next, .ref m_cube, .ref m_ways])), (m_next, .inl (cI, 3, (.inl fn)))])) (va_Qi (fun (r : Int32) (_ : Unit) => (r = 0 ∧ ¬ (sd u0 u1 u2 0 % n = 0 ∧ sd u0 u1 u2 2 % (n - 1) = 0 ∧ sd u0 u1 u2 2 / (n - 1) * n ≤ 24)) ∨ (r = 1 ∧ (sd u0 u1 u2 0 % n = 0 ∧ sd u0 u1 u2 2 % (n - 1) = 0 ∧ sd u0 u1 u2 2 / (n - 1) * n ≤ 24))) (fun _ t => ∃ fz : Nat → Int32, ((sd u0 u1 u2 0 % n = 0 ∧ sd u0 u1 u2 2 % (n - 1) = 0 ∧ sd u0 u1 u2 2 / (n - 1) * n ≤ 24) → fz 0 = nI (u0 / n * (n - 1)) ∧ fz 1 = nI (u1) ∧ fz 2 = nI (u2 / (n - 1) * n)) ∧ va_P (dC, dI) vwCl [(m0, .inr (11, [.int 0, .ref m_tape, .int 0, .int 0, .int 0, .ref m_read, .int 0, .int 0, .int 0, .ref m_tets, .int 0, .int 0, .int 0, .int 0, .int 0, .int 0, .int 0, .int 0, .ref m_primes, .ref m_often, .ref m_normal, .ref m_termM, .ref m_termP, .ref m_termV, .ref m_sumFrom, .ref m_sumMany, .int 0, .int 0, .int 0, .int 0, .ref m_part, .ref m_fair, .ref m_heap, .ref m_pickTet, .ref m_pickEdge, .ref m_base, .ref m_baseM, .ref m_baseP, .ref m_rowsOf, .int 0, .ref m_grid, .ref m_times, .ref m_boxes, .ref m_cameFrom, .ref m_cameBy, .ref m_steps, .ref m_sides, .int w9, .int (-1), .ref m_next, .ref m_cube, .ref m_ways])), (m_next, .inl (cI, 3, (.inl fz)))] t.heap ∧ va_K (dC, dI) vwCl [(cB, .byte), (cI, .int), (cJ, .long)] t ∧ va_D (va_A [(m0, .inr (11, [.int 0, .ref m_tape, .int 0, .int 0, .int 0, .ref m_read, .int 0, .int 0, .int 0, .ref m_tets, .int 0, .int 0, .int 0, .int 0, .int 0, .int 0, .int 0, .int 0, .ref m_primes, .ref m_often, .ref m_normal, .ref m_termM, .ref m_termP, .ref m_termV, .ref m_sumFrom, .ref m_sumMany, .int 0, .int 0, .int 0, .int 0, .ref m_part, .ref m_fair, .ref m_heap, .ref m_pickTet, .ref m_pickEdge, .ref m_base, .ref m_baseM, .ref m_baseP, .ref m_rowsOf, .int 0, .ref m_grid, .ref m_times, .ref m_boxes, .ref m_cameFrom, .ref m_cameBy, .ref m_steps, .ref m_sides, .int w9, .int (-1), .ref m_next, .ref m_cube, .ref m_ways])), (m_next, .inl (cI, 3, (.inl fn)))] sz) [(m0, .inr (11, [.int 0, .ref m_tape, .int 0, .int 0, .int 0, .ref m_read, .int 0, .int 0, .int 0, .ref m_tets, .int 0, .int 0, .int 0, .int 0, .int 0, .int 0, .int 0, .int 0, .ref m_primes, .ref m_often, .ref m_normal, .ref m_termM, .ref m_termP, .ref m_termV, .ref m_sumFrom, .ref m_sumMany, .int 0, .int 0, .int 0, .int 0, .ref m_part, .ref m_fair, .ref m_heap, .ref m_pickTet, .ref m_pickEdge, .ref m_base, .ref m_baseM, .ref m_baseP, .ref m_rowsOf, .int 0, .ref m_grid, .ref m_times, .ref m_boxes, .ref m_cameFrom, .ref m_cameBy, .ref m_steps, .ref m_sides, .int w9, .int (-1), .ref m_next, .ref m_cube, .ref m_ways])), (m_next, .inl (cI, 3, (.inl fz)))]) (va_A [(m0, .inr (11, [.int 0, .ref m_tape, .int 0, .int 0, .int 0, .ref m_read, .int 0, .int 0, .int 0, .ref m_tets, .int 0, .int 0, .int 0, .int 0, .int 0, .int 0, .int 0, .int 0, .ref m_primes, .ref m_often, .ref m_normal, .ref m_termM, .ref m_termP, .ref m_termV, .ref m_sumFrom, .ref m_sumMany, .int 0, .int 0, .int 0, .int 0, .ref m_part, .ref m_fair, .ref m_heap, .ref m_pickTet, .ref m_pickEdge, .ref m_base, .ref m_baseM, .ref m_baseP, .ref m_rowsOf, .int 0, .ref m_grid, .ref m_times, .ref m_boxes, .ref m_cameFrom, .ref m_cameBy, .ref m_steps, .ref m_sides, .int w9, .int (-1), .ref m_next, .ref m_cube, .ref m_ways])), (m_next, .inl (cI, 3, (.inl fn)))] sz)) 0 0 (va_A [(m0, .inr (11, [.int 0, .ref m_tape, .int 0, .int 0, .int 0, .ref m_read, .int 0, .int 0, .int 0, .ref m_tets, .int 0, .int 0, .int 0, .int 0, .int 0, .int 0, .int 0, .int 0, .ref m_primes, .ref m_often, .ref m_normal, .ref m_termM, .ref m_termP, .ref m_termV, .ref m_sumFrom, .ref m_sumMany, .int 0, .int 0, .int 0, .int 0, .ref m_part, .ref m_fair, .ref m_heap, .ref m_pickTet, .ref m_pickEdge, .ref m_base, .ref m_baseM, .ref m_baseP, .ref m_rowsOf, .int 0, .ref m_grid, .ref m_times, .ref m_boxes, .ref m_cameFrom, .ref m_cameBy, .ref m_steps, .ref m_sides, .int w9, .int (-1), .ref m_next, .ref m_cube, .ref m_ways])), (m_next, .inl (cI, 3, (.inl fn)))] sz) := by
  refine Met.ofW (cc := cX11_goes_) (maxL := 4) (ret := (some .boolean)) (by decide) rfl ?_
  intro p e s m args below meth c s₁ B hml hv
  obtain ⟨rfl, hsz, hP, hK, hD0⟩ := hv
  have hx := B.exec
  have hb := B.bytes
  have hr := B.returns
  have hts := atoms_spec (ws := wsX11_goes_) B.pre
  have hown : s.vm.findClass RX11 = some m.cls := findClass_of_methodNamed B.named
  have hlocks := B.notSynchronized
  have hiX11 : ∀ w ∈ u_ws RX11 TX11 52, w ∈ wsX11_goes_ := by decide +kernel
  subst hsz
  have hD := hD0.self (sz := s.heap.size)
  generalize hAe : va_A [(m0, .inr (11, [.int 0, .ref m_tape, .int 0, .int 0, .int 0, .ref m_read, .int 0, .int 0, .int 0, .ref m_tets, .int 0, .int 0, .int 0, .int 0, .int 0, .int 0, .int 0, .int 0, .ref m_primes, .ref m_often, .ref m_normal, .ref m_termM, .ref m_termP, .ref m_termV, .ref m_sumFrom, .ref m_sumMany, .int 0, .int 0, .int 0, .int 0, .ref m_part, .ref m_fair, .ref m_heap, .ref m_pickTet, .ref m_pickEdge, .ref m_base, .ref m_baseM, .ref m_baseP, .ref m_rowsOf, .int 0, .ref m_grid, .ref m_times, .ref m_boxes, .ref m_cameFrom, .ref m_cameBy, .ref m_steps, .ref m_sides, .int w9, .int (-1), .ref m_next, .ref m_cube, .ref m_ways])), (m_next, .inl (cI, 3, (.inl fn)))] s.heap.size = A at hD ⊢
  have hA : ∀ q : Nat, s.heap.size ≤ q → A q := fun q h => by rw [← hAe]; exact Or.inr h
  have hS : va_S A s.heap s.heap [] := va_S.rf
  have hP : va_P (dC, dI) vwCl [(m0, .inr (11, [.int 0, .ref m_tape, .int 0, .int 0, .int 0, .ref m_read, .int 0, .int 0, .int 0, .ref m_tets, .int 0, .int 0, .int 0, .int 0, .int 0, .int 0, .int 0, .int 0, .ref m_primes, .ref m_often, .ref m_normal, .ref m_termM, .ref m_termP, .ref m_termV, .ref m_sumFrom, .ref m_sumMany, .int 0, .int 0, .int 0, .int 0, .ref m_part, .ref m_fair, .ref m_heap, .ref m_pickTet, .ref m_pickEdge, .ref m_base, .ref m_baseM, .ref m_baseP, .ref m_rowsOf, .int 0, .ref m_grid, .ref m_times, .ref m_boxes, .ref m_cameFrom, .ref m_cameBy, .ref m_steps, .ref m_sides, .int w9, .int (-1), .ref m_next, .ref m_cube, .ref m_ways])), (m_next, .inl (cI, 3, (.inl fn)))] s.heap := hP
  have hl := lv_entry ([.ref m0, .int 0, .int 2, .int (nI n)]) (n := 4) (Nat.le_of_ble_eq_true rfl)
  rw [lg_entry_eq]
  generalize (lg_sl ([.ref m0, .int 0, .int 2, .int (nI n)]) ++ List.replicate (4 - (lg_sl ([.ref m0, .int 0, .int 2, .int (nI n)])).length) Slot.unset).toArray = ls at hl ⊢
  have hl : lv_has ls 4 [(0, .ref m0), (1, .int 0), (2, .int 2), (3, .int (nI n))] := hl
  have r1 : u0 % n ≤ 24 := Nat.le_trans (Nat.mod_le _ _) (by omega)
  have r2 : u2 % (n - 1) ≤ 24 := Nat.le_trans (Nat.mod_le _ _) (by omega)
  refine lv_aload_n hx hb dX11_goes__0 rfl (lv_at hl 0 rfl) ?_
  refine va_get (D := (dC, dI)) (ci := 11) (v := .ref m_next) (C := RX11) (T := TX11) (N := 52) hx hb hts hiX11 hown hK hP 0 rfl rfl 49 (by decide) (hts (.fieldLink RX11 97 "ScissorsTableModel" "next" "[I") (by decide +kernel)) (fun _ h9 => h9) rfl dX11_goes__1 ?_
  refine lv_iload_n hx hb dX11_goes__4 rfl (lv_at hl 1 rfl) ?_
  refine va_iald hx hb hK hP 1 1 rfl rfl (by show ¬ (_ ∨ _); decide) dX11_goes__5 ?_
  refine lv_topi (fun x_1 ex_1 => ?_)
  have ex_1 : x_1 = fn 0 := ex_1
  obtain rfl : x_1 = nI u0 := ex_1.trans hs.1
  refine lv_iload_n hx hb dX11_goes__6 rfl (lv_at hl 3 rfl) ?_
  refine lv_irem hx hb dX11_goes__7 (nI_ne0 (by omega) (by omega)) ?_
  refine lv_topi (fun x_2 ex_2 => ?_)
  obtain rfl : x_2 = nI (u0 % n) := ex_2.trans (pk_rem (a := u0) (d := n) (by omega) (by omega) (by omega))
  refine lv_if_ne (tgt := 41) hx hb dX11_goes__8 (by decide) (fun c_3 => ?_) (fun c_3 => ?_)
  · have c_3 : ¬ (u0 % n) = 0 := fun q9 => c_3 ((nI_eq (a := u0 % n) (b := 0) (by omega) (by omega)).mpr q9)
    refine lv_iconst (v := 0) hx hb dX11_goes__41 (by decide) ?_
    have hP9 := hP.sub (ws' := [(m0, .inr (11, [.int 0, .ref m_tape, .int 0, .int 0, .int 0, .ref m_read, .int 0, .int 0, .int 0, .ref m_tets, .int 0, .int 0, .int 0, .int 0, .int 0, .int 0, .int 0, .int 0, .ref m_primes, .ref m_often, .ref m_normal, .ref m_termM, .ref m_termP, .ref m_termV, .ref m_sumFrom, .ref m_sumMany, .int 0, .int 0, .int 0, .int 0, .ref m_part, .ref m_fair, .ref m_heap, .ref m_pickTet, .ref m_pickEdge, .ref m_base, .ref m_baseM, .ref m_baseP, .ref m_rowsOf, .int 0, .ref m_grid, .ref m_times, .ref m_boxes, .ref m_cameFrom, .ref m_cameBy, .ref m_steps, .ref m_sides, .int w9, .int (-1), .ref m_next, .ref m_cube, .ref m_ways])), (m_next, .inl (cI, 3, (.inl fn)))]) [0, 1] rfl
    have hD9 := hD.sub (ws' := [(m0, .inr (11, [.int 0, .ref m_tape, .int 0, .int 0, .int 0, .ref m_read, .int 0, .int 0, .int 0, .ref m_tets, .int 0, .int 0, .int 0, .int 0, .int 0, .int 0, .int 0, .int 0, .ref m_primes, .ref m_often, .ref m_normal, .ref m_termM, .ref m_termP, .ref m_termV, .ref m_sumFrom, .ref m_sumMany, .int 0, .int 0, .int 0, .int 0, .ref m_part, .ref m_fair, .ref m_heap, .ref m_pickTet, .ref m_pickEdge, .ref m_base, .ref m_baseM, .ref m_baseP, .ref m_rowsOf, .int 0, .ref m_grid, .ref m_times, .ref m_boxes, .ref m_cameFrom, .ref m_cameBy, .ref m_steps, .ref m_sides, .int w9, .int (-1), .ref m_next, .ref m_cube, .ref m_ways])), (m_next, .inl (cI, 3, (.inl fn)))]) [0, 1] (by decide) rfl
    refine W.widen (k := 0) (n := 0) (Nat.le_of_ble_eq_true rfl) (Nat.le_of_ble_eq_true rfl) ?_
    exact W.zret (v := 0) hx hb hr (by decide) (fun t ht hW => ⟨⟨0, (), rfl, (Or.inl ⟨rfl, (fun h9 => c_3 h9.1)⟩), fn, (fun h9 => absurd h9 (fun h9 => c_3 h9.1)), by rw [ht]; exact hP9, va_K.moved hW.alike hK, hD9⟩, hS.F ht⟩) hS.2.2 dX11_goes__42
  · have c_3 : (u0 % n) = 0 := (nI_eq (a := u0 % n) (b := 0) (by omega) (by omega)).mp c_3
    refine lv_aload_n hx hb dX11_goes__11 rfl (lv_at hl 0 rfl) ?_
    refine va_get (D := (dC, dI)) (ci := 11) (v := .ref m_next) (C := RX11) (T := TX11) (N := 52) hx hb hts hiX11 hown hK hP 0 rfl rfl 49 (by decide) (hts (.fieldLink RX11 97 "ScissorsTableModel" "next" "[I") (by decide +kernel)) (fun _ h9 => h9) rfl dX11_goes__12 ?_
    refine lv_iload_n hx hb dX11_goes__15 rfl (lv_at hl 2 rfl) ?_
    refine va_iald hx hb hK hP 1 1 rfl rfl (by show ¬ (_ ∨ _); decide) dX11_goes__16 ?_
    refine lv_topi (fun x_4 ex_4 => ?_)
    have ex_4 : x_4 = fn 2 := ex_4
    obtain rfl : x_4 = nI u2 := ex_4.trans hs.2.2
    refine lv_iload_n hx hb dX11_goes__17 rfl (lv_at hl 3 rfl) ?_
    refine lv_iconst (v := 1) hx hb dX11_goes__18 (by decide) ?_
    refine lv_isub hx hb dX11_goes__19 ?_
    refine lv_topi (fun x_5 ex_5 => ?_)
    obtain rfl : x_5 = nI (n - 1) := ex_5.trans (pk_sub (a := n) (b := 1) (by omega))
    refine lv_irem hx hb dX11_goes__20 (nI_ne0 (by omega) (by omega)) ?_
    refine lv_topi (fun x_6 ex_6 => ?_)
    obtain rfl : x_6 = nI (u2 % (n - 1)) := ex_6.trans (pk_rem (a := u2) (d := n - 1) (by omega) (by omega) (by omega))
    refine lv_if_ne (tgt := 41) hx hb dX11_goes__21 (by decide) (fun c_7 => ?_) (fun c_7 => ?_)
    · have c_7 : ¬ (u2 % (n - 1)) = 0 := fun q9 => c_7 ((nI_eq (a := u2 % (n - 1)) (b := 0) (by omega) (by omega)).mpr q9)
      refine lv_iconst (v := 0) hx hb dX11_goes__41 (by decide) ?_
      have hP9 := hP.sub (ws' := [(m0, .inr (11, [.int 0, .ref m_tape, .int 0, .int 0, .int 0, .ref m_read, .int 0, .int 0, .int 0, .ref m_tets, .int 0, .int 0, .int 0, .int 0, .int 0, .int 0, .int 0, .int 0, .ref m_primes, .ref m_often, .ref m_normal, .ref m_termM, .ref m_termP, .ref m_termV, .ref m_sumFrom, .ref m_sumMany, .int 0, .int 0, .int 0, .int 0, .ref m_part, .ref m_fair, .ref m_heap, .ref m_pickTet, .ref m_pickEdge, .ref m_base, .ref m_baseM, .ref m_baseP, .ref m_rowsOf, .int 0, .ref m_grid, .ref m_times, .ref m_boxes, .ref m_cameFrom, .ref m_cameBy, .ref m_steps, .ref m_sides, .int w9, .int (-1), .ref m_next, .ref m_cube, .ref m_ways])), (m_next, .inl (cI, 3, (.inl fn)))]) [0, 1] rfl
      have hD9 := hD.sub (ws' := [(m0, .inr (11, [.int 0, .ref m_tape, .int 0, .int 0, .int 0, .ref m_read, .int 0, .int 0, .int 0, .ref m_tets, .int 0, .int 0, .int 0, .int 0, .int 0, .int 0, .int 0, .int 0, .ref m_primes, .ref m_often, .ref m_normal, .ref m_termM, .ref m_termP, .ref m_termV, .ref m_sumFrom, .ref m_sumMany, .int 0, .int 0, .int 0, .int 0, .ref m_part, .ref m_fair, .ref m_heap, .ref m_pickTet, .ref m_pickEdge, .ref m_base, .ref m_baseM, .ref m_baseP, .ref m_rowsOf, .int 0, .ref m_grid, .ref m_times, .ref m_boxes, .ref m_cameFrom, .ref m_cameBy, .ref m_steps, .ref m_sides, .int w9, .int (-1), .ref m_next, .ref m_cube, .ref m_ways])), (m_next, .inl (cI, 3, (.inl fn)))]) [0, 1] (by decide) rfl
      refine W.widen (k := 0) (n := 0) (Nat.le_of_ble_eq_true rfl) (Nat.le_of_ble_eq_true rfl) ?_
      exact W.zret (v := 0) hx hb hr (by decide) (fun t ht hW => ⟨⟨0, (), rfl, (Or.inl ⟨rfl, (fun h9 => c_7 h9.2.1)⟩), fn, (fun h9 => absurd h9 (fun h9 => c_7 h9.2.1)), by rw [ht]; exact hP9, va_K.moved hW.alike hK, hD9⟩, hS.F ht⟩) hS.2.2 dX11_goes__42
    · have c_7 : (u2 % (n - 1)) = 0 := (nI_eq (a := u2 % (n - 1)) (b := 0) (by omega) (by omega)).mp c_7
      have hdl : u2 / (n - 1) * n ≤ 24 * 24 := Nat.mul_le_mul (Nat.le_trans (Nat.div_le_self _ _) (by omega)) hn.2
      refine lv_aload_n hx hb dX11_goes__24 rfl (lv_at hl 0 rfl) ?_
      refine va_get (D := (dC, dI)) (ci := 11) (v := .ref m_next) (C := RX11) (T := TX11) (N := 52) hx hb hts hiX11 hown hK hP 0 rfl rfl 49 (by decide) (hts (.fieldLink RX11 97 "ScissorsTableModel" "next" "[I") (by decide +kernel)) (fun _ h9 => h9) rfl dX11_goes__25 ?_
      refine lv_iload_n hx hb dX11_goes__28 rfl (lv_at hl 2 rfl) ?_
      refine va_iald hx hb hK hP 1 1 rfl rfl (by show ¬ (_ ∨ _); decide) dX11_goes__29 ?_
      refine lv_topi (fun x_8 ex_8 => ?_)
      have ex_8 : x_8 = fn 2 := ex_8
      obtain rfl : x_8 = nI u2 := ex_8.trans hs.2.2
      refine lv_iload_n hx hb dX11_goes__30 rfl (lv_at hl 3 rfl) ?_
      refine lv_iconst (v := 1) hx hb dX11_goes__31 (by decide) ?_
      refine lv_isub hx hb dX11_goes__32 ?_
      refine lv_topi (fun x_9 ex_9 => ?_)
      obtain rfl : x_9 = nI (n - 1) := ex_9.trans (pk_sub (a := n) (b := 1) (by omega))
      refine lv_idiv hx hb dX11_goes__33 (nI_ne0 (by omega) (by omega)) ?_
      refine lv_topi (fun x_10 ex_10 => ?_)
      obtain rfl : x_10 = nI (u2 / (n - 1)) := ex_10.trans (pk_div (a := u2) (d := n - 1) (by omega) (by omega) (by omega))
      refine lv_iload_n hx hb dX11_goes__34 rfl (lv_at hl 3 rfl) ?_
      refine lv_imul hx hb dX11_goes__35 ?_
      refine lv_topi (fun x_11 ex_11 => ?_)
      obtain rfl : x_11 = nI ((u2 / (n - 1)) * n) := ex_11.trans (pk_mul (u2 / (n - 1)) n)
      refine lv_bipush (v := 24) hx hb dX11_goes__36 (by decide) ?_
      refine lv_icmp_le (tgt := 43) hx hb dX11_goes__38 (by decide) (fun c_12 => ?_) (fun c_12 => ?_)
      · have c_12 : ((u2 / (n - 1)) * n) ≤ 24 := (nI_leI (a := (u2 / (n - 1)) * n) (b := 24) (by omega) (by omega)).mp c_12
        refine lv_aload_n hx hb dX11_goes__43 rfl (lv_at hl 0 rfl) ?_
        refine va_get (D := (dC, dI)) (ci := 11) (v := .ref m_next) (C := RX11) (T := TX11) (N := 52) hx hb hts hiX11 hown hK hP 0 rfl rfl 49 (by decide) (hts (.fieldLink RX11 97 "ScissorsTableModel" "next" "[I") (by decide +kernel)) (fun _ h9 => h9) rfl dX11_goes__44 ?_
        refine lv_iload_n hx hb dX11_goes__47 rfl (lv_at hl 1 rfl) ?_
        refine lv_aload_n hx hb dX11_goes__48 rfl (lv_at hl 0 rfl) ?_
        refine va_get (D := (dC, dI)) (ci := 11) (v := .ref m_next) (C := RX11) (T := TX11) (N := 52) hx hb hts hiX11 hown hK hP 0 rfl rfl 49 (by decide) (hts (.fieldLink RX11 97 "ScissorsTableModel" "next" "[I") (by decide +kernel)) (fun _ h9 => h9) rfl dX11_goes__49 ?_
        refine lv_iload_n hx hb dX11_goes__52 rfl (lv_at hl 1 rfl) ?_
        refine va_iald hx hb hK hP 1 1 rfl rfl (by show ¬ (_ ∨ _); decide) dX11_goes__53 ?_
        refine lv_topi (fun x_13 ex_13 => ?_)
        have ex_13 : x_13 = fn 0 := ex_13
        obtain rfl : x_13 = nI u0 := ex_13.trans hs.1
        refine lv_iload_n hx hb dX11_goes__54 rfl (lv_at hl 3 rfl) ?_
        refine lv_idiv hx hb dX11_goes__55 (nI_ne0 (by omega) (by omega)) ?_
        refine lv_topi (fun x_14 ex_14 => ?_)
        obtain rfl : x_14 = nI (u0 / n) := ex_14.trans (pk_div (a := u0) (d := n) (by omega) (by omega) (by omega))
        refine lv_iload_n hx hb dX11_goes__56 rfl (lv_at hl 3 rfl) ?_
        refine lv_iconst (v := 1) hx hb dX11_goes__57 (by decide) ?_
        refine lv_isub hx hb dX11_goes__58 ?_
        refine lv_topi (fun x_15 ex_15 => ?_)
        obtain rfl : x_15 = nI (n - 1) := ex_15.trans (pk_sub (a := n) (b := 1) (by omega))
        refine lv_imul hx hb dX11_goes__59 ?_
        refine lv_topi (fun x_16 ex_16 => ?_)
        obtain rfl : x_16 = nI ((u0 / n) * (n - 1)) := ex_16.trans (pk_mul (u0 / n) (n - 1))
        refine va_iast hx hb hK hP hD hS 1 1 rfl rfl (by show ¬ (_ ∨ _); decide) dX11_goes__60 (fun H locs hP hD hS => ?_)
        rw [show (0 : Int32).toNatClampNeg = 0 from rfl] at hP hD
        have hP : va_P (dC, dI) vwCl [(m0, .inr (11, [.int 0, .ref m_tape, .int 0, .int 0, .int 0, .ref m_read, .int 0, .int 0, .int 0, .ref m_tets, .int 0, .int 0, .int 0, .int 0, .int 0, .int 0, .int 0, .int 0, .ref m_primes, .ref m_often, .ref m_normal, .ref m_termM, .ref m_termP, .ref m_termV, .ref m_sumFrom, .ref m_sumMany, .int 0, .int 0, .int 0, .int 0, .ref m_part, .ref m_fair, .ref m_heap, .ref m_pickTet, .ref m_pickEdge, .ref m_base, .ref m_baseM, .ref m_baseP, .ref m_rowsOf, .int 0, .ref m_grid, .ref m_times, .ref m_boxes, .ref m_cameFrom, .ref m_cameBy, .ref m_steps, .ref m_sides, .int w9, .int (-1), .ref m_next, .ref m_cube, .ref m_ways])), (m_next, .inl (cI, 3, (.inl (upd fn 0 (nI ((u0 / n) * (n - 1)))))))] H := hP
        have hD : va_D A [(m0, .inr (11, [.int 0, .ref m_tape, .int 0, .int 0, .int 0, .ref m_read, .int 0, .int 0, .int 0, .ref m_tets, .int 0, .int 0, .int 0, .int 0, .int 0, .int 0, .int 0, .int 0, .ref m_primes, .ref m_often, .ref m_normal, .ref m_termM, .ref m_termP, .ref m_termV, .ref m_sumFrom, .ref m_sumMany, .int 0, .int 0, .int 0, .int 0, .ref m_part, .ref m_fair, .ref m_heap, .ref m_pickTet, .ref m_pickEdge, .ref m_base, .ref m_baseM, .ref m_baseP, .ref m_rowsOf, .int 0, .ref m_grid, .ref m_times, .ref m_boxes, .ref m_cameFrom, .ref m_cameBy, .ref m_steps, .ref m_sides, .int w9, .int (-1), .ref m_next, .ref m_cube, .ref m_ways])), (m_next, .inl (cI, 3, (.inl (upd fn 0 (nI ((u0 / n) * (n - 1)))))))] := hD
        refine lv_aload_n hx hb dX11_goes__61 rfl (lv_at hl 0 rfl) ?_
        refine va_get (D := (dC, dI)) (ci := 11) (v := .ref m_next) (C := RX11) (T := TX11) (N := 52) hx hb hts hiX11 hown hK hP 0 rfl rfl 49 (by decide) (hts (.fieldLink RX11 97 "ScissorsTableModel" "next" "[I") (by decide +kernel)) (fun _ h9 => h9) rfl dX11_goes__62 ?_
        refine lv_iload_n hx hb dX11_goes__65 rfl (lv_at hl 2 rfl) ?_
        refine lv_aload_n hx hb dX11_goes__66 rfl (lv_at hl 0 rfl) ?_
        refine va_get (D := (dC, dI)) (ci := 11) (v := .ref m_next) (C := RX11) (T := TX11) (N := 52) hx hb hts hiX11 hown hK hP 0 rfl rfl 49 (by decide) (hts (.fieldLink RX11 97 "ScissorsTableModel" "next" "[I") (by decide +kernel)) (fun _ h9 => h9) rfl dX11_goes__67 ?_
        refine lv_iload_n hx hb dX11_goes__70 rfl (lv_at hl 2 rfl) ?_
        refine va_iald hx hb hK hP 1 1 rfl rfl (by show ¬ (_ ∨ _); decide) dX11_goes__71 ?_
        refine lv_topi (fun x_17 ex_17 => ?_)
        have ex_17 : x_17 = (upd fn 0 (nI ((u0 / n) * (n - 1)))) 2 := ex_17
        obtain rfl : x_17 = nI u2 := ex_17.trans ((pk_un (by decide)).trans hs.2.2)
        refine lv_iload_n hx hb dX11_goes__72 rfl (lv_at hl 3 rfl) ?_
        refine lv_iconst (v := 1) hx hb dX11_goes__73 (by decide) ?_
        refine lv_isub hx hb dX11_goes__74 ?_
        refine lv_topi (fun x_18 ex_18 => ?_)
        obtain rfl : x_18 = nI (n - 1) := ex_18.trans (pk_sub (a := n) (b := 1) (by omega))
        refine lv_idiv hx hb dX11_goes__75 (nI_ne0 (by omega) (by omega)) ?_
        refine lv_topi (fun x_19 ex_19 => ?_)
        obtain rfl : x_19 = nI (u2 / (n - 1)) := ex_19.trans (pk_div (a := u2) (d := n - 1) (by omega) (by omega) (by omega))
        refine lv_iload_n hx hb dX11_goes__76 rfl (lv_at hl 3 rfl) ?_
        refine lv_imul hx hb dX11_goes__77 ?_
        refine lv_topi (fun x_20 ex_20 => ?_)
        obtain rfl : x_20 = nI ((u2 / (n - 1)) * n) := ex_20.trans (pk_mul (u2 / (n - 1)) n)
        refine va_iast hx hb hK hP hD hS 1 1 rfl rfl (by show ¬ (_ ∨ _); decide) dX11_goes__78 (fun H locs hP hD hS => ?_)
        rw [show (2 : Int32).toNatClampNeg = 2 from rfl] at hP hD
        have hP : va_P (dC, dI) vwCl [(m0, .inr (11, [.int 0, .ref m_tape, .int 0, .int 0, .int 0, .ref m_read, .int 0, .int 0, .int 0, .ref m_tets, .int 0, .int 0, .int 0, .int 0, .int 0, .int 0, .int 0, .int 0, .ref m_primes, .ref m_often, .ref m_normal, .ref m_termM, .ref m_termP, .ref m_termV, .ref m_sumFrom, .ref m_sumMany, .int 0, .int 0, .int 0, .int 0, .ref m_part, .ref m_fair, .ref m_heap, .ref m_pickTet, .ref m_pickEdge, .ref m_base, .ref m_baseM, .ref m_baseP, .ref m_rowsOf, .int 0, .ref m_grid, .ref m_times, .ref m_boxes, .ref m_cameFrom, .ref m_cameBy, .ref m_steps, .ref m_sides, .int w9, .int (-1), .ref m_next, .ref m_cube, .ref m_ways])), (m_next, .inl (cI, 3, (.inl (upd (upd fn 0 (nI ((u0 / n) * (n - 1)))) 2 (nI ((u2 / (n - 1)) * n))))))] H := hP
        have hD : va_D A [(m0, .inr (11, [.int 0, .ref m_tape, .int 0, .int 0, .int 0, .ref m_read, .int 0, .int 0, .int 0, .ref m_tets, .int 0, .int 0, .int 0, .int 0, .int 0, .int 0, .int 0, .int 0, .ref m_primes, .ref m_often, .ref m_normal, .ref m_termM, .ref m_termP, .ref m_termV, .ref m_sumFrom, .ref m_sumMany, .int 0, .int 0, .int 0, .int 0, .ref m_part, .ref m_fair, .ref m_heap, .ref m_pickTet, .ref m_pickEdge, .ref m_base, .ref m_baseM, .ref m_baseP, .ref m_rowsOf, .int 0, .ref m_grid, .ref m_times, .ref m_boxes, .ref m_cameFrom, .ref m_cameBy, .ref m_steps, .ref m_sides, .int w9, .int (-1), .ref m_next, .ref m_cube, .ref m_ways])), (m_next, .inl (cI, 3, (.inl (upd (upd fn 0 (nI ((u0 / n) * (n - 1)))) 2 (nI ((u2 / (n - 1)) * n))))))] := hD
        refine lv_iconst (v := 1) hx hb dX11_goes__79 (by decide) ?_
        have hP9 := hP.sub (ws' := [(m0, .inr (11, [.int 0, .ref m_tape, .int 0, .int 0, .int 0, .ref m_read, .int 0, .int 0, .int 0, .ref m_tets, .int 0, .int 0, .int 0, .int 0, .int 0, .int 0, .int 0, .int 0, .ref m_primes, .ref m_often, .ref m_normal, .ref m_termM, .ref m_termP, .ref m_termV, .ref m_sumFrom, .ref m_sumMany, .int 0, .int 0, .int 0, .int 0, .ref m_part, .ref m_fair, .ref m_heap, .ref m_pickTet, .ref m_pickEdge, .ref m_base, .ref m_baseM, .ref m_baseP, .ref m_rowsOf, .int 0, .ref m_grid, .ref m_times, .ref m_boxes, .ref m_cameFrom, .ref m_cameBy, .ref m_steps, .ref m_sides, .int w9, .int (-1), .ref m_next, .ref m_cube, .ref m_ways])), (m_next, .inl (cI, 3, (.inl (upd (upd fn 0 (nI ((u0 / n) * (n - 1)))) 2 (nI ((u2 / (n - 1)) * n))))))]) [0, 1] rfl
        have hD9 := hD.sub (ws' := [(m0, .inr (11, [.int 0, .ref m_tape, .int 0, .int 0, .int 0, .ref m_read, .int 0, .int 0, .int 0, .ref m_tets, .int 0, .int 0, .int 0, .int 0, .int 0, .int 0, .int 0, .int 0, .ref m_primes, .ref m_often, .ref m_normal, .ref m_termM, .ref m_termP, .ref m_termV, .ref m_sumFrom, .ref m_sumMany, .int 0, .int 0, .int 0, .int 0, .ref m_part, .ref m_fair, .ref m_heap, .ref m_pickTet, .ref m_pickEdge, .ref m_base, .ref m_baseM, .ref m_baseP, .ref m_rowsOf, .int 0, .ref m_grid, .ref m_times, .ref m_boxes, .ref m_cameFrom, .ref m_cameBy, .ref m_steps, .ref m_sides, .int w9, .int (-1), .ref m_next, .ref m_cube, .ref m_ways])), (m_next, .inl (cI, 3, (.inl (upd (upd fn 0 (nI ((u0 / n) * (n - 1)))) 2 (nI ((u2 / (n - 1)) * n))))))]) [0, 1] (by decide) rfl
        refine W.widen (k := 0) (n := 0) (Nat.le_of_ble_eq_true rfl) (Nat.le_of_ble_eq_true rfl) ?_
        exact W.zret (v := 1) hx hb hr (by decide) (fun t ht hW => ⟨⟨1, (), rfl, (Or.inr ⟨rfl, ⟨c_3, c_7, c_12⟩⟩), (upd (upd fn 0 (nI ((u0 / n) * (n - 1)))) 2 (nI ((u2 / (n - 1)) * n))), (fun _ => ⟨(pk_un (by decide)).trans pk_us, (pk_un (by decide)).trans ((pk_un (by decide)).trans hs.2.1), pk_us⟩), by rw [ht]; exact hP9, va_K.moved hW.alike hK, hD9⟩, hS.F ht⟩) hS.2.2 dX11_goes__80
      · have c_12 : ¬ ((u2 / (n - 1)) * n) ≤ 24 := fun q9 => c_12 ((nI_leI (a := (u2 / (n - 1)) * n) (b := 24) (by omega) (by omega)).mpr q9)
        refine lv_iconst (v := 0) hx hb dX11_goes__41 (by decide) ?_
        have hP9 := hP.sub (ws' := [(m0, .inr (11, [.int 0, .ref m_tape, .int 0, .int 0, .int 0, .ref m_read, .int 0, .int 0, .int 0, .ref m_tets, .int 0, .int 0, .int 0, .int 0, .int 0, .int 0, .int 0, .int 0, .ref m_primes, .ref m_often, .ref m_normal, .ref m_termM, .ref m_termP, .ref m_termV, .ref m_sumFrom, .ref m_sumMany, .int 0, .int 0, .int 0, .int 0, .ref m_part, .ref m_fair, .ref m_heap, .ref m_pickTet, .ref m_pickEdge, .ref m_base, .ref m_baseM, .ref m_baseP, .ref m_rowsOf, .int 0, .ref m_grid, .ref m_times, .ref m_boxes, .ref m_cameFrom, .ref m_cameBy, .ref m_steps, .ref m_sides, .int w9, .int (-1), .ref m_next, .ref m_cube, .ref m_ways])), (m_next, .inl (cI, 3, (.inl fn)))]) [0, 1] rfl
        have hD9 := hD.sub (ws' := [(m0, .inr (11, [.int 0, .ref m_tape, .int 0, .int 0, .int 0, .ref m_read, .int 0, .int 0, .int 0, .ref m_tets, .int 0, .int 0, .int 0, .int 0, .int 0, .int 0, .int 0, .int 0, .ref m_primes, .ref m_often, .ref m_normal, .ref m_termM, .ref m_termP, .ref m_termV, .ref m_sumFrom, .ref m_sumMany, .int 0, .int 0, .int 0, .int 0, .ref m_part, .ref m_fair, .ref m_heap, .ref m_pickTet, .ref m_pickEdge, .ref m_base, .ref m_baseM, .ref m_baseP, .ref m_rowsOf, .int 0, .ref m_grid, .ref m_times, .ref m_boxes, .ref m_cameFrom, .ref m_cameBy, .ref m_steps, .ref m_sides, .int w9, .int (-1), .ref m_next, .ref m_cube, .ref m_ways])), (m_next, .inl (cI, 3, (.inl fn)))]) [0, 1] (by decide) rfl
        refine W.widen (k := 0) (n := 0) (Nat.le_of_ble_eq_true rfl) (Nat.le_of_ble_eq_true rfl) ?_
        exact W.zret (v := 0) hx hb hr (by decide) (fun t ht hW => ⟨⟨0, (), rfl, (Or.inl ⟨rfl, (fun h9 => c_12 h9.2.2)⟩), fn, (fun h9 => absurd h9 (fun h9 => c_12 h9.2.2)), by rw [ht]; exact hP9, va_K.moved hW.alike hK, hD9⟩, hS.F ht⟩) hS.2.2 dX11_goes__42
set_option maxHeartbeats 4000000 in
set_option maxRecDepth 100000 in
theorem c_X11_goes__10 (l : Launch) (dC : Nat → ClassId) (dI : Nat → Nat → Nat) (cB cI cJ : ClassId) (sz : Nat) (m0 m_tape m_read m_tets m_primes m_often m_normal m_termM m_termP m_termV m_sumFrom m_sumMany m_part m_fair m_heap m_pickTet m_pickEdge m_base m_baseM m_baseP m_rowsOf m_grid m_times m_boxes m_cameFrom m_cameBy m_steps m_sides m_next m_cube m_ways : Nat) (w9 : Int32) (fn : Nat → Int32) (u0 u1 u2 n : Nat) (hu : (1 ≤ u0 ∧ u0 ≤ 24) ∧ (1 ≤ u1 ∧ u1 ≤ 24) ∧ (1 ≤ u2 ∧ u2 ≤ 24)) (hn : 2 ≤ n ∧ n ≤ 24) (hs : fn 0 = nI u0 ∧ fn 1 = nI u1 ∧ fn 2 = nI u2) : Met l yX11_goes_ wsX11_goes_ ({ frames := 1, cells := 0, slots := 0, locals := 24 }) (va_Pc [.ref m0, .int 1, .int 0, .int (nI n)] (fun U => U.heap.size = sz ∧ va_P (dC, dI) vwCl [(m0, .inr (11, [.int 0, .ref m_tape, .int 0, .int 0, .int 0, .ref m_read, .int 0, .int 0, .int 0, .ref m_tets, .int 0, .int 0, .int 0, .int 0, .int 0, .int 0, .int 0, .int 0, .ref m_primes, .ref m_often, .ref m_normal, .ref m_termM, .ref m_termP, .ref m_termV, .ref m_sumFrom, .ref m_sumMany, .int 0, .int 0, .int 0, .int 0, .ref m_part, .ref m_fair, .ref m_heap, .ref m_pickTet, .ref m_pickEdge, .ref m_base, .ref m_baseM, .ref m_baseP, .ref m_rowsOf, .int 0, .ref m_grid, .ref m_times, .ref m_boxes, .ref m_cameFrom, .ref m_cameBy, .ref m_steps, .ref m_sides, .int w9, .int (-1), .ref m_next, .ref m_cube, .ref m_ways])), (m_next, .inl (cI, 3, (.inl fn)))] U.heap ∧ va_K (dC, dI) vwCl [(cB, .byte), (cI, .int), (cJ, .long)] U ∧ va_D (fun _ => True) [(m0, .inr (11, [.int 0, .ref m_tape, .int 0, .int 0, .int 0, .ref m_read, .int 0, .int 0, .int 0, .ref m_tets, .int 0, .int 0, .int 0, .int 0, .int 0, .int 0, .int 0, .int 0, .ref m_primes, .ref m_often, .ref m_normal, .ref m_termM, .ref m_termP, .ref m_termV, .ref m_sumFrom, .ref m_sumMany, .int 0, .int 0, .int 0, .int 0, .ref m_part, .ref m_fair, .ref m_heap, .ref m_pickTet, .ref m_pickEdge, .ref m_base, .ref m_baseM, .ref m_baseP, .ref m_rowsOf, .int 0, .ref m_grid, .ref m_times, .ref m_boxes, .ref m_cameFrom, .ref m_cameBy, .ref m_steps, .ref m_sides, .int w9, .int (-1), .ref m_next, .ref m_cube, .ref m_ways])), (m_next, .inl (cI, 3, (.inl fn)))])) (va_Qi (fun (r : Int32) (_ : Unit) => (r = 0 ∧ ¬ (sd u0 u1 u2 1 % n = 0 ∧ sd u0 u1 u2 0 % (n - 1) = 0 ∧ sd u0 u1 u2 0 / (n - 1) * n ≤ 24)) ∨ (r = 1 ∧ (sd u0 u1 u2 1 % n = 0 ∧ sd u0 u1 u2 0 % (n - 1) = 0 ∧ sd u0 u1 u2 0 / (n - 1) * n ≤ 24))) (fun _ t => ∃ fz : Nat → Int32, ((sd u0 u1 u2 1 % n = 0 ∧ sd u0 u1 u2 0 % (n - 1) = 0 ∧ sd u0 u1 u2 0 / (n - 1) * n ≤ 24) → fz 0 = nI (u0 / (n - 1) * n) ∧ fz 1 = nI (u1 / n * (n - 1)) ∧ fz 2 = nI (u2)) ∧ va_P (dC, dI) vwCl [(m0, .inr (11, [.int 0, .ref m_tape, .int 0, .int 0, .int 0, .ref m_read, .int 0, .int 0, .int 0, .ref m_tets, .int 0, .int 0, .int 0, .int 0, .int 0, .int 0, .int 0, .int 0, .ref m_primes, .ref m_often, .ref m_normal, .ref m_termM, .ref m_termP, .ref m_termV, .ref m_sumFrom, .ref m_sumMany, .int 0, .int 0, .int 0, .int 0, .ref m_part, .ref m_fair, .ref m_heap, .ref m_pickTet, .ref m_pickEdge, .ref m_base, .ref m_baseM, .ref m_baseP, .ref m_rowsOf, .int 0, .ref m_grid, .ref m_times, .ref m_boxes, .ref m_cameFrom, .ref m_cameBy, .ref m_steps, .ref m_sides, .int w9, .int (-1), .ref m_next, .ref m_cube, .ref m_ways])), (m_next, .inl (cI, 3, (.inl fz)))] t.heap ∧ va_K (dC, dI) vwCl [(cB, .byte), (cI, .int), (cJ, .long)] t ∧ va_D (va_A [(m0, .inr (11, [.int 0, .ref m_tape, .int 0, .int 0, .int 0, .ref m_read, .int 0, .int 0, .int 0, .ref m_tets, .int 0, .int 0, .int 0, .int 0, .int 0, .int 0, .int 0, .int 0, .ref m_primes, .ref m_often, .ref m_normal, .ref m_termM, .ref m_termP, .ref m_termV, .ref m_sumFrom, .ref m_sumMany, .int 0, .int 0, .int 0, .int 0, .ref m_part, .ref m_fair, .ref m_heap, .ref m_pickTet, .ref m_pickEdge, .ref m_base, .ref m_baseM, .ref m_baseP, .ref m_rowsOf, .int 0, .ref m_grid, .ref m_times, .ref m_boxes, .ref m_cameFrom, .ref m_cameBy, .ref m_steps, .ref m_sides, .int w9, .int (-1), .ref m_next, .ref m_cube, .ref m_ways])), (m_next, .inl (cI, 3, (.inl fn)))] sz) [(m0, .inr (11, [.int 0, .ref m_tape, .int 0, .int 0, .int 0, .ref m_read, .int 0, .int 0, .int 0, .ref m_tets, .int 0, .int 0, .int 0, .int 0, .int 0, .int 0, .int 0, .int 0, .ref m_primes, .ref m_often, .ref m_normal, .ref m_termM, .ref m_termP, .ref m_termV, .ref m_sumFrom, .ref m_sumMany, .int 0, .int 0, .int 0, .int 0, .ref m_part, .ref m_fair, .ref m_heap, .ref m_pickTet, .ref m_pickEdge, .ref m_base, .ref m_baseM, .ref m_baseP, .ref m_rowsOf, .int 0, .ref m_grid, .ref m_times, .ref m_boxes, .ref m_cameFrom, .ref m_cameBy, .ref m_steps, .ref m_sides, .int w9, .int (-1), .ref m_next, .ref m_cube, .ref m_ways])), (m_next, .inl (cI, 3, (.inl fz)))]) (va_A [(m0, .inr (11, [.int 0, .ref m_tape, .int 0, .int 0, .int 0, .ref m_read, .int 0, .int 0, .int 0, .ref m_tets, .int 0, .int 0, .int 0, .int 0, .int 0, .int 0, .int 0, .int 0, .ref m_primes, .ref m_often, .ref m_normal, .ref m_termM, .ref m_termP, .ref m_termV, .ref m_sumFrom, .ref m_sumMany, .int 0, .int 0, .int 0, .int 0, .ref m_part, .ref m_fair, .ref m_heap, .ref m_pickTet, .ref m_pickEdge, .ref m_base, .ref m_baseM, .ref m_baseP, .ref m_rowsOf, .int 0, .ref m_grid, .ref m_times, .ref m_boxes, .ref m_cameFrom, .ref m_cameBy, .ref m_steps, .ref m_sides, .int w9, .int (-1), .ref m_next, .ref m_cube, .ref m_ways])), (m_next, .inl (cI, 3, (.inl fn)))] sz)) 0 0 (va_A [(m0, .inr (11, [.int 0, .ref m_tape, .int 0, .int 0, .int 0, .ref m_read, .int 0, .int 0, .int 0, .ref m_tets, .int 0, .int 0, .int 0, .int 0, .int 0, .int 0, .int 0, .int 0, .ref m_primes, .ref m_often, .ref m_normal, .ref m_termM, .ref m_termP, .ref m_termV, .ref m_sumFrom, .ref m_sumMany, .int 0, .int 0, .int 0, .int 0, .ref m_part, .ref m_fair, .ref m_heap, .ref m_pickTet, .ref m_pickEdge, .ref m_base, .ref m_baseM, .ref m_baseP, .ref m_rowsOf, .int 0, .ref m_grid, .ref m_times, .ref m_boxes, .ref m_cameFrom, .ref m_cameBy, .ref m_steps, .ref m_sides, .int w9, .int (-1), .ref m_next, .ref m_cube, .ref m_ways])), (m_next, .inl (cI, 3, (.inl fn)))] sz) := by
  refine Met.ofW (cc := cX11_goes_) (maxL := 4) (ret := (some .boolean)) (by decide) rfl ?_
  intro p e s m args below meth c s₁ B hml hv
  obtain ⟨rfl, hsz, hP, hK, hD0⟩ := hv
  have hx := B.exec
  have hb := B.bytes
  have hr := B.returns
  have hts := atoms_spec (ws := wsX11_goes_) B.pre
  have hown : s.vm.findClass RX11 = some m.cls := findClass_of_methodNamed B.named
  have hlocks := B.notSynchronized
  have hiX11 : ∀ w ∈ u_ws RX11 TX11 52, w ∈ wsX11_goes_ := by decide +kernel
  subst hsz
  have hD := hD0.self (sz := s.heap.size)
  generalize hAe : va_A [(m0, .inr (11, [.int 0, .ref m_tape, .int 0, .int 0, .int 0, .ref m_read, .int 0, .int 0, .int 0, .ref m_tets, .int 0, .int 0, .int 0, .int 0, .int 0, .int 0, .int 0, .int 0, .ref m_primes, .ref m_often, .ref m_normal, .ref m_termM, .ref m_termP, .ref m_termV, .ref m_sumFrom, .ref m_sumMany, .int 0, .int 0, .int 0, .int 0, .ref m_part, .ref m_fair, .ref m_heap, .ref m_pickTet, .ref m_pickEdge, .ref m_base, .ref m_baseM, .ref m_baseP, .ref m_rowsOf, .int 0, .ref m_grid, .ref m_times, .ref m_boxes, .ref m_cameFrom, .ref m_cameBy, .ref m_steps, .ref m_sides, .int w9, .int (-1), .ref m_next, .ref m_cube, .ref m_ways])), (m_next, .inl (cI, 3, (.inl fn)))] s.heap.size = A at hD ⊢
  have hA : ∀ q : Nat, s.heap.size ≤ q → A q := fun q h => by rw [← hAe]; exact Or.inr h
  have hS : va_S A s.heap s.heap [] := va_S.rf
  have hP : va_P (dC, dI) vwCl [(m0, .inr (11, [.int 0, .ref m_tape, .int 0, .int 0, .int 0, .ref m_read, .int 0, .int 0, .int 0, .ref m_tets, .int 0, .int 0, .int 0, .int 0, .int 0, .int 0, .int 0, .int 0, .ref m_primes, .ref m_often, .ref m_normal, .ref m_termM, .ref m_termP, .ref m_termV, .ref m_sumFrom, .ref m_sumMany, .int 0, .int 0, .int 0, .int 0, .ref m_part, .ref m_fair, .ref m_heap, .ref m_pickTet, .ref m_pickEdge, .ref m_base, .ref m_baseM, .ref m_baseP, .ref m_rowsOf, .int 0, .ref m_grid, .ref m_times, .ref m_boxes, .ref m_cameFrom, .ref m_cameBy, .ref m_steps, .ref m_sides, .int w9, .int (-1), .ref m_next, .ref m_cube, .ref m_ways])), (m_next, .inl (cI, 3, (.inl fn)))] s.heap := hP
  have hl := lv_entry ([.ref m0, .int 1, .int 0, .int (nI n)]) (n := 4) (Nat.le_of_ble_eq_true rfl)
  rw [lg_entry_eq]
  generalize (lg_sl ([.ref m0, .int 1, .int 0, .int (nI n)]) ++ List.replicate (4 - (lg_sl ([.ref m0, .int 1, .int 0, .int (nI n)])).length) Slot.unset).toArray = ls at hl ⊢
  have hl : lv_has ls 4 [(0, .ref m0), (1, .int 1), (2, .int 0), (3, .int (nI n))] := hl
  have r1 : u1 % n ≤ 24 := Nat.le_trans (Nat.mod_le _ _) (by omega)
  have r2 : u0 % (n - 1) ≤ 24 := Nat.le_trans (Nat.mod_le _ _) (by omega)
  refine lv_aload_n hx hb dX11_goes__0 rfl (lv_at hl 0 rfl) ?_
  refine va_get (D := (dC, dI)) (ci := 11) (v := .ref m_next) (C := RX11) (T := TX11) (N := 52) hx hb hts hiX11 hown hK hP 0 rfl rfl 49 (by decide) (hts (.fieldLink RX11 97 "ScissorsTableModel" "next" "[I") (by decide +kernel)) (fun _ h9 => h9) rfl dX11_goes__1 ?_
  refine lv_iload_n hx hb dX11_goes__4 rfl (lv_at hl 1 rfl) ?_
  refine va_iald hx hb hK hP 1 1 rfl rfl (by show ¬ (_ ∨ _); decide) dX11_goes__5 ?_
  refine lv_topi (fun x_1 ex_1 => ?_)
  have ex_1 : x_1 = fn 1 := ex_1
  obtain rfl : x_1 = nI u1 := ex_1.trans hs.2.1
  refine lv_iload_n hx hb dX11_goes__6 rfl (lv_at hl 3 rfl) ?_
  refine lv_irem hx hb dX11_goes__7 (nI_ne0 (by omega) (by omega)) ?_
  refine lv_topi (fun x_2 ex_2 => ?_)
  obtain rfl : x_2 = nI (u1 % n) := ex_2.trans (pk_rem (a := u1) (d := n) (by omega) (by omega) (by omega))
  refine lv_if_ne (tgt := 41) hx hb dX11_goes__8 (by decide) (fun c_3 => ?_) (fun c_3 => ?_)
  · have c_3 : ¬ (u1 % n) = 0 := fun q9 => c_3 ((nI_eq (a := u1 % n) (b := 0) (by omega) (by omega)).mpr q9)
    refine lv_iconst (v := 0) hx hb dX11_goes__41 (by decide) ?_
    have hP9 := hP.sub (ws' := [(m0, .inr (11, [.int 0, .ref m_tape, .int 0, .int 0, .int 0, .ref m_read, .int 0, .int 0, .int 0, .ref m_tets, .int 0, .int 0, .int 0, .int 0, .int 0, .int 0, .int 0, .int 0, .ref m_primes, .ref m_often, .ref m_normal, .ref m_termM, .ref m_termP, .ref m_termV, .ref m_sumFrom, .ref m_sumMany, .int 0, .int 0, .int 0, .int 0, .ref m_part, .ref m_fair, .ref m_heap, .ref m_pickTet, .ref m_pickEdge, .ref m_base, .ref m_baseM, .ref m_baseP, .ref m_rowsOf, .int 0, .ref m_grid, .ref m_times, .ref m_boxes, .ref m_cameFrom, .ref m_cameBy, .ref m_steps, .ref m_sides, .int w9, .int (-1), .ref m_next, .ref m_cube, .ref m_ways])), (m_next, .inl (cI, 3, (.inl fn)))]) [0, 1] rfl
    have hD9 := hD.sub (ws' := [(m0, .inr (11, [.int 0, .ref m_tape, .int 0, .int 0, .int 0, .ref m_read, .int 0, .int 0, .int 0, .ref m_tets, .int 0, .int 0, .int 0, .int 0, .int 0, .int 0, .int 0, .int 0, .ref m_primes, .ref m_often, .ref m_normal, .ref m_termM, .ref m_termP, .ref m_termV, .ref m_sumFrom, .ref m_sumMany, .int 0, .int 0, .int 0, .int 0, .ref m_part, .ref m_fair, .ref m_heap, .ref m_pickTet, .ref m_pickEdge, .ref m_base, .ref m_baseM, .ref m_baseP, .ref m_rowsOf, .int 0, .ref m_grid, .ref m_times, .ref m_boxes, .ref m_cameFrom, .ref m_cameBy, .ref m_steps, .ref m_sides, .int w9, .int (-1), .ref m_next, .ref m_cube, .ref m_ways])), (m_next, .inl (cI, 3, (.inl fn)))]) [0, 1] (by decide) rfl
    refine W.widen (k := 0) (n := 0) (Nat.le_of_ble_eq_true rfl) (Nat.le_of_ble_eq_true rfl) ?_
    exact W.zret (v := 0) hx hb hr (by decide) (fun t ht hW => ⟨⟨0, (), rfl, (Or.inl ⟨rfl, (fun h9 => c_3 h9.1)⟩), fn, (fun h9 => absurd h9 (fun h9 => c_3 h9.1)), by rw [ht]; exact hP9, va_K.moved hW.alike hK, hD9⟩, hS.F ht⟩) hS.2.2 dX11_goes__42
  · have c_3 : (u1 % n) = 0 := (nI_eq (a := u1 % n) (b := 0) (by omega) (by omega)).mp c_3
    refine lv_aload_n hx hb dX11_goes__11 rfl (lv_at hl 0 rfl) ?_
    refine va_get (D := (dC, dI)) (ci := 11) (v := .ref m_next) (C := RX11) (T := TX11) (N := 52) hx hb hts hiX11 hown hK hP 0 rfl rfl 49 (by decide) (hts (.fieldLink RX11 97 "ScissorsTableModel" "next" "[I") (by decide +kernel)) (fun _ h9 => h9) rfl dX11_goes__12 ?_
    refine lv_iload_n hx hb dX11_goes__15 rfl (lv_at hl 2 rfl) ?_
    refine va_iald hx hb hK hP 1 1 rfl rfl (by show ¬ (_ ∨ _); decide) dX11_goes__16 ?_
    refine lv_topi (fun x_4 ex_4 => ?_)
    have ex_4 : x_4 = fn 0 := ex_4
    obtain rfl : x_4 = nI u0 := ex_4.trans hs.1
    refine lv_iload_n hx hb dX11_goes__17 rfl (lv_at hl 3 rfl) ?_
    refine lv_iconst (v := 1) hx hb dX11_goes__18 (by decide) ?_
    refine lv_isub hx hb dX11_goes__19 ?_
    refine lv_topi (fun x_5 ex_5 => ?_)
    obtain rfl : x_5 = nI (n - 1) := ex_5.trans (pk_sub (a := n) (b := 1) (by omega))
    refine lv_irem hx hb dX11_goes__20 (nI_ne0 (by omega) (by omega)) ?_
    refine lv_topi (fun x_6 ex_6 => ?_)
    obtain rfl : x_6 = nI (u0 % (n - 1)) := ex_6.trans (pk_rem (a := u0) (d := n - 1) (by omega) (by omega) (by omega))
    refine lv_if_ne (tgt := 41) hx hb dX11_goes__21 (by decide) (fun c_7 => ?_) (fun c_7 => ?_)
    · have c_7 : ¬ (u0 % (n - 1)) = 0 := fun q9 => c_7 ((nI_eq (a := u0 % (n - 1)) (b := 0) (by omega) (by omega)).mpr q9)
      refine lv_iconst (v := 0) hx hb dX11_goes__41 (by decide) ?_
      have hP9 := hP.sub (ws' := [(m0, .inr (11, [.int 0, .ref m_tape, .int 0, .int 0, .int 0, .ref m_read, .int 0, .int 0, .int 0, .ref m_tets, .int 0, .int 0, .int 0, .int 0, .int 0, .int 0, .int 0, .int 0, .ref m_primes, .ref m_often, .ref m_normal, .ref m_termM, .ref m_termP, .ref m_termV, .ref m_sumFrom, .ref m_sumMany, .int 0, .int 0, .int 0, .int 0, .ref m_part, .ref m_fair, .ref m_heap, .ref m_pickTet, .ref m_pickEdge, .ref m_base, .ref m_baseM, .ref m_baseP, .ref m_rowsOf, .int 0, .ref m_grid, .ref m_times, .ref m_boxes, .ref m_cameFrom, .ref m_cameBy, .ref m_steps, .ref m_sides, .int w9, .int (-1), .ref m_next, .ref m_cube, .ref m_ways])), (m_next, .inl (cI, 3, (.inl fn)))]) [0, 1] rfl
      have hD9 := hD.sub (ws' := [(m0, .inr (11, [.int 0, .ref m_tape, .int 0, .int 0, .int 0, .ref m_read, .int 0, .int 0, .int 0, .ref m_tets, .int 0, .int 0, .int 0, .int 0, .int 0, .int 0, .int 0, .int 0, .ref m_primes, .ref m_often, .ref m_normal, .ref m_termM, .ref m_termP, .ref m_termV, .ref m_sumFrom, .ref m_sumMany, .int 0, .int 0, .int 0, .int 0, .ref m_part, .ref m_fair, .ref m_heap, .ref m_pickTet, .ref m_pickEdge, .ref m_base, .ref m_baseM, .ref m_baseP, .ref m_rowsOf, .int 0, .ref m_grid, .ref m_times, .ref m_boxes, .ref m_cameFrom, .ref m_cameBy, .ref m_steps, .ref m_sides, .int w9, .int (-1), .ref m_next, .ref m_cube, .ref m_ways])), (m_next, .inl (cI, 3, (.inl fn)))]) [0, 1] (by decide) rfl
      refine W.widen (k := 0) (n := 0) (Nat.le_of_ble_eq_true rfl) (Nat.le_of_ble_eq_true rfl) ?_
      exact W.zret (v := 0) hx hb hr (by decide) (fun t ht hW => ⟨⟨0, (), rfl, (Or.inl ⟨rfl, (fun h9 => c_7 h9.2.1)⟩), fn, (fun h9 => absurd h9 (fun h9 => c_7 h9.2.1)), by rw [ht]; exact hP9, va_K.moved hW.alike hK, hD9⟩, hS.F ht⟩) hS.2.2 dX11_goes__42
    · have c_7 : (u0 % (n - 1)) = 0 := (nI_eq (a := u0 % (n - 1)) (b := 0) (by omega) (by omega)).mp c_7
      have hdl : u0 / (n - 1) * n ≤ 24 * 24 := Nat.mul_le_mul (Nat.le_trans (Nat.div_le_self _ _) (by omega)) hn.2
      refine lv_aload_n hx hb dX11_goes__24 rfl (lv_at hl 0 rfl) ?_
      refine va_get (D := (dC, dI)) (ci := 11) (v := .ref m_next) (C := RX11) (T := TX11) (N := 52) hx hb hts hiX11 hown hK hP 0 rfl rfl 49 (by decide) (hts (.fieldLink RX11 97 "ScissorsTableModel" "next" "[I") (by decide +kernel)) (fun _ h9 => h9) rfl dX11_goes__25 ?_
      refine lv_iload_n hx hb dX11_goes__28 rfl (lv_at hl 2 rfl) ?_
      refine va_iald hx hb hK hP 1 1 rfl rfl (by show ¬ (_ ∨ _); decide) dX11_goes__29 ?_
      refine lv_topi (fun x_8 ex_8 => ?_)
      have ex_8 : x_8 = fn 0 := ex_8
      obtain rfl : x_8 = nI u0 := ex_8.trans hs.1
      refine lv_iload_n hx hb dX11_goes__30 rfl (lv_at hl 3 rfl) ?_
      refine lv_iconst (v := 1) hx hb dX11_goes__31 (by decide) ?_
      refine lv_isub hx hb dX11_goes__32 ?_
      refine lv_topi (fun x_9 ex_9 => ?_)
      obtain rfl : x_9 = nI (n - 1) := ex_9.trans (pk_sub (a := n) (b := 1) (by omega))
      refine lv_idiv hx hb dX11_goes__33 (nI_ne0 (by omega) (by omega)) ?_
      refine lv_topi (fun x_10 ex_10 => ?_)
      obtain rfl : x_10 = nI (u0 / (n - 1)) := ex_10.trans (pk_div (a := u0) (d := n - 1) (by omega) (by omega) (by omega))
      refine lv_iload_n hx hb dX11_goes__34 rfl (lv_at hl 3 rfl) ?_
      refine lv_imul hx hb dX11_goes__35 ?_
      refine lv_topi (fun x_11 ex_11 => ?_)
      obtain rfl : x_11 = nI ((u0 / (n - 1)) * n) := ex_11.trans (pk_mul (u0 / (n - 1)) n)
      refine lv_bipush (v := 24) hx hb dX11_goes__36 (by decide) ?_
      refine lv_icmp_le (tgt := 43) hx hb dX11_goes__38 (by decide) (fun c_12 => ?_) (fun c_12 => ?_)
      · have c_12 : ((u0 / (n - 1)) * n) ≤ 24 := (nI_leI (a := (u0 / (n - 1)) * n) (b := 24) (by omega) (by omega)).mp c_12
        refine lv_aload_n hx hb dX11_goes__43 rfl (lv_at hl 0 rfl) ?_
        refine va_get (D := (dC, dI)) (ci := 11) (v := .ref m_next) (C := RX11) (T := TX11) (N := 52) hx hb hts hiX11 hown hK hP 0 rfl rfl 49 (by decide) (hts (.fieldLink RX11 97 "ScissorsTableModel" "next" "[I") (by decide +kernel)) (fun _ h9 => h9) rfl dX11_goes__44 ?_
        refine lv_iload_n hx hb dX11_goes__47 rfl (lv_at hl 1 rfl) ?_
        refine lv_aload_n hx hb dX11_goes__48 rfl (lv_at hl 0 rfl) ?_
        refine va_get (D := (dC, dI)) (ci := 11) (v := .ref m_next) (C := RX11) (T := TX11) (N := 52) hx hb hts hiX11 hown hK hP 0 rfl rfl 49 (by decide) (hts (.fieldLink RX11 97 "ScissorsTableModel" "next" "[I") (by decide +kernel)) (fun _ h9 => h9) rfl dX11_goes__49 ?_
        refine lv_iload_n hx hb dX11_goes__52 rfl (lv_at hl 1 rfl) ?_
        refine va_iald hx hb hK hP 1 1 rfl rfl (by show ¬ (_ ∨ _); decide) dX11_goes__53 ?_
        refine lv_topi (fun x_13 ex_13 => ?_)
        have ex_13 : x_13 = fn 1 := ex_13
        obtain rfl : x_13 = nI u1 := ex_13.trans hs.2.1
        refine lv_iload_n hx hb dX11_goes__54 rfl (lv_at hl 3 rfl) ?_
        refine lv_idiv hx hb dX11_goes__55 (nI_ne0 (by omega) (by omega)) ?_
        refine lv_topi (fun x_14 ex_14 => ?_)
        obtain rfl : x_14 = nI (u1 / n) := ex_14.trans (pk_div (a := u1) (d := n) (by omega) (by omega) (by omega))
        refine lv_iload_n hx hb dX11_goes__56 rfl (lv_at hl 3 rfl) ?_
        refine lv_iconst (v := 1) hx hb dX11_goes__57 (by decide) ?_
        refine lv_isub hx hb dX11_goes__58 ?_
        refine lv_topi (fun x_15 ex_15 => ?_)
        obtain rfl : x_15 = nI (n - 1) := ex_15.trans (pk_sub (a := n) (b := 1) (by omega))
        refine lv_imul hx hb dX11_goes__59 ?_
        refine lv_topi (fun x_16 ex_16 => ?_)
        obtain rfl : x_16 = nI ((u1 / n) * (n - 1)) := ex_16.trans (pk_mul (u1 / n) (n - 1))
        refine va_iast hx hb hK hP hD hS 1 1 rfl rfl (by show ¬ (_ ∨ _); decide) dX11_goes__60 (fun H locs hP hD hS => ?_)
        rw [show (1 : Int32).toNatClampNeg = 1 from rfl] at hP hD
        have hP : va_P (dC, dI) vwCl [(m0, .inr (11, [.int 0, .ref m_tape, .int 0, .int 0, .int 0, .ref m_read, .int 0, .int 0, .int 0, .ref m_tets, .int 0, .int 0, .int 0, .int 0, .int 0, .int 0, .int 0, .int 0, .ref m_primes, .ref m_often, .ref m_normal, .ref m_termM, .ref m_termP, .ref m_termV, .ref m_sumFrom, .ref m_sumMany, .int 0, .int 0, .int 0, .int 0, .ref m_part, .ref m_fair, .ref m_heap, .ref m_pickTet, .ref m_pickEdge, .ref m_base, .ref m_baseM, .ref m_baseP, .ref m_rowsOf, .int 0, .ref m_grid, .ref m_times, .ref m_boxes, .ref m_cameFrom, .ref m_cameBy, .ref m_steps, .ref m_sides, .int w9, .int (-1), .ref m_next, .ref m_cube, .ref m_ways])), (m_next, .inl (cI, 3, (.inl (upd fn 1 (nI ((u1 / n) * (n - 1)))))))] H := hP
        have hD : va_D A [(m0, .inr (11, [.int 0, .ref m_tape, .int 0, .int 0, .int 0, .ref m_read, .int 0, .int 0, .int 0, .ref m_tets, .int 0, .int 0, .int 0, .int 0, .int 0, .int 0, .int 0, .int 0, .ref m_primes, .ref m_often, .ref m_normal, .ref m_termM, .ref m_termP, .ref m_termV, .ref m_sumFrom, .ref m_sumMany, .int 0, .int 0, .int 0, .int 0, .ref m_part, .ref m_fair, .ref m_heap, .ref m_pickTet, .ref m_pickEdge, .ref m_base, .ref m_baseM, .ref m_baseP, .ref m_rowsOf, .int 0, .ref m_grid, .ref m_times, .ref m_boxes, .ref m_cameFrom, .ref m_cameBy, .ref m_steps, .ref m_sides, .int w9, .int (-1), .ref m_next, .ref m_cube, .ref m_ways])), (m_next, .inl (cI, 3, (.inl (upd fn 1 (nI ((u1 / n) * (n - 1)))))))] := hD
        refine lv_aload_n hx hb dX11_goes__61 rfl (lv_at hl 0 rfl) ?_
        refine va_get (D := (dC, dI)) (ci := 11) (v := .ref m_next) (C := RX11) (T := TX11) (N := 52) hx hb hts hiX11 hown hK hP 0 rfl rfl 49 (by decide) (hts (.fieldLink RX11 97 "ScissorsTableModel" "next" "[I") (by decide +kernel)) (fun _ h9 => h9) rfl dX11_goes__62 ?_
        refine lv_iload_n hx hb dX11_goes__65 rfl (lv_at hl 2 rfl) ?_
        refine lv_aload_n hx hb dX11_goes__66 rfl (lv_at hl 0 rfl) ?_
        refine va_get (D := (dC, dI)) (ci := 11) (v := .ref m_next) (C := RX11) (T := TX11) (N := 52) hx hb hts hiX11 hown hK hP 0 rfl rfl 49 (by decide) (hts (.fieldLink RX11 97 "ScissorsTableModel" "next" "[I") (by decide +kernel)) (fun _ h9 => h9) rfl dX11_goes__67 ?_
        refine lv_iload_n hx hb dX11_goes__70 rfl (lv_at hl 2 rfl) ?_
        refine va_iald hx hb hK hP 1 1 rfl rfl (by show ¬ (_ ∨ _); decide) dX11_goes__71 ?_
        refine lv_topi (fun x_17 ex_17 => ?_)
        have ex_17 : x_17 = (upd fn 1 (nI ((u1 / n) * (n - 1)))) 0 := ex_17
        obtain rfl : x_17 = nI u0 := ex_17.trans ((pk_un (by decide)).trans hs.1)
        refine lv_iload_n hx hb dX11_goes__72 rfl (lv_at hl 3 rfl) ?_
        refine lv_iconst (v := 1) hx hb dX11_goes__73 (by decide) ?_
        refine lv_isub hx hb dX11_goes__74 ?_
        refine lv_topi (fun x_18 ex_18 => ?_)
        obtain rfl : x_18 = nI (n - 1) := ex_18.trans (pk_sub (a := n) (b := 1) (by omega))
        refine lv_idiv hx hb dX11_goes__75 (nI_ne0 (by omega) (by omega)) ?_
        refine lv_topi (fun x_19 ex_19 => ?_)
        obtain rfl : x_19 = nI (u0 / (n - 1)) := ex_19.trans (pk_div (a := u0) (d := n - 1) (by omega) (by omega) (by omega))
        refine lv_iload_n hx hb dX11_goes__76 rfl (lv_at hl 3 rfl) ?_
        refine lv_imul hx hb dX11_goes__77 ?_
        refine lv_topi (fun x_20 ex_20 => ?_)
        obtain rfl : x_20 = nI ((u0 / (n - 1)) * n) := ex_20.trans (pk_mul (u0 / (n - 1)) n)
        refine va_iast hx hb hK hP hD hS 1 1 rfl rfl (by show ¬ (_ ∨ _); decide) dX11_goes__78 (fun H locs hP hD hS => ?_)
        rw [show (0 : Int32).toNatClampNeg = 0 from rfl] at hP hD
        have hP : va_P (dC, dI) vwCl [(m0, .inr (11, [.int 0, .ref m_tape, .int 0, .int 0, .int 0, .ref m_read, .int 0, .int 0, .int 0, .ref m_tets, .int 0, .int 0, .int 0, .int 0, .int 0, .int 0, .int 0, .int 0, .ref m_primes, .ref m_often, .ref m_normal, .ref m_termM, .ref m_termP, .ref m_termV, .ref m_sumFrom, .ref m_sumMany, .int 0, .int 0, .int 0, .int 0, .ref m_part, .ref m_fair, .ref m_heap, .ref m_pickTet, .ref m_pickEdge, .ref m_base, .ref m_baseM, .ref m_baseP, .ref m_rowsOf, .int 0, .ref m_grid, .ref m_times, .ref m_boxes, .ref m_cameFrom, .ref m_cameBy, .ref m_steps, .ref m_sides, .int w9, .int (-1), .ref m_next, .ref m_cube, .ref m_ways])), (m_next, .inl (cI, 3, (.inl (upd (upd fn 1 (nI ((u1 / n) * (n - 1)))) 0 (nI ((u0 / (n - 1)) * n))))))] H := hP
        have hD : va_D A [(m0, .inr (11, [.int 0, .ref m_tape, .int 0, .int 0, .int 0, .ref m_read, .int 0, .int 0, .int 0, .ref m_tets, .int 0, .int 0, .int 0, .int 0, .int 0, .int 0, .int 0, .int 0, .ref m_primes, .ref m_often, .ref m_normal, .ref m_termM, .ref m_termP, .ref m_termV, .ref m_sumFrom, .ref m_sumMany, .int 0, .int 0, .int 0, .int 0, .ref m_part, .ref m_fair, .ref m_heap, .ref m_pickTet, .ref m_pickEdge, .ref m_base, .ref m_baseM, .ref m_baseP, .ref m_rowsOf, .int 0, .ref m_grid, .ref m_times, .ref m_boxes, .ref m_cameFrom, .ref m_cameBy, .ref m_steps, .ref m_sides, .int w9, .int (-1), .ref m_next, .ref m_cube, .ref m_ways])), (m_next, .inl (cI, 3, (.inl (upd (upd fn 1 (nI ((u1 / n) * (n - 1)))) 0 (nI ((u0 / (n - 1)) * n))))))] := hD
        refine lv_iconst (v := 1) hx hb dX11_goes__79 (by decide) ?_
        have hP9 := hP.sub (ws' := [(m0, .inr (11, [.int 0, .ref m_tape, .int 0, .int 0, .int 0, .ref m_read, .int 0, .int 0, .int 0, .ref m_tets, .int 0, .int 0, .int 0, .int 0, .int 0, .int 0, .int 0, .int 0, .ref m_primes, .ref m_often, .ref m_normal, .ref m_termM, .ref m_termP, .ref m_termV, .ref m_sumFrom, .ref m_sumMany, .int 0, .int 0, .int 0, .int 0, .ref m_part, .ref m_fair, .ref m_heap, .ref m_pickTet, .ref m_pickEdge, .ref m_base, .ref m_baseM, .ref m_baseP, .ref m_rowsOf, .int 0, .ref m_grid, .ref m_times, .ref m_boxes, .ref m_cameFrom, .ref m_cameBy, .ref m_steps, .ref m_sides, .int w9, .int (-1), .ref m_next, .ref m_cube, .ref m_ways])), (m_next, .inl (cI, 3, (.inl (upd (upd fn 1 (nI ((u1 / n) * (n - 1)))) 0 (nI ((u0 / (n - 1)) * n))))))]) [0, 1] rfl
        have hD9 := hD.sub (ws' := [(m0, .inr (11, [.int 0, .ref m_tape, .int 0, .int 0, .int 0, .ref m_read, .int 0, .int 0, .int 0, .ref m_tets, .int 0, .int 0, .int 0, .int 0, .int 0, .int 0, .int 0, .int 0, .ref m_primes, .ref m_often, .ref m_normal, .ref m_termM, .ref m_termP, .ref m_termV, .ref m_sumFrom, .ref m_sumMany, .int 0, .int 0, .int 0, .int 0, .ref m_part, .ref m_fair, .ref m_heap, .ref m_pickTet, .ref m_pickEdge, .ref m_base, .ref m_baseM, .ref m_baseP, .ref m_rowsOf, .int 0, .ref m_grid, .ref m_times, .ref m_boxes, .ref m_cameFrom, .ref m_cameBy, .ref m_steps, .ref m_sides, .int w9, .int (-1), .ref m_next, .ref m_cube, .ref m_ways])), (m_next, .inl (cI, 3, (.inl (upd (upd fn 1 (nI ((u1 / n) * (n - 1)))) 0 (nI ((u0 / (n - 1)) * n))))))]) [0, 1] (by decide) rfl
        refine W.widen (k := 0) (n := 0) (Nat.le_of_ble_eq_true rfl) (Nat.le_of_ble_eq_true rfl) ?_
        exact W.zret (v := 1) hx hb hr (by decide) (fun t ht hW => ⟨⟨1, (), rfl, (Or.inr ⟨rfl, ⟨c_3, c_7, c_12⟩⟩), (upd (upd fn 1 (nI ((u1 / n) * (n - 1)))) 0 (nI ((u0 / (n - 1)) * n))), (fun _ => ⟨pk_us, (pk_un (by decide)).trans pk_us, (pk_un (by decide)).trans ((pk_un (by decide)).trans hs.2.2)⟩), by rw [ht]; exact hP9, va_K.moved hW.alike hK, hD9⟩, hS.F ht⟩) hS.2.2 dX11_goes__80
      · have c_12 : ¬ ((u0 / (n - 1)) * n) ≤ 24 := fun q9 => c_12 ((nI_leI (a := (u0 / (n - 1)) * n) (b := 24) (by omega) (by omega)).mpr q9)
        refine lv_iconst (v := 0) hx hb dX11_goes__41 (by decide) ?_
        have hP9 := hP.sub (ws' := [(m0, .inr (11, [.int 0, .ref m_tape, .int 0, .int 0, .int 0, .ref m_read, .int 0, .int 0, .int 0, .ref m_tets, .int 0, .int 0, .int 0, .int 0, .int 0, .int 0, .int 0, .int 0, .ref m_primes, .ref m_often, .ref m_normal, .ref m_termM, .ref m_termP, .ref m_termV, .ref m_sumFrom, .ref m_sumMany, .int 0, .int 0, .int 0, .int 0, .ref m_part, .ref m_fair, .ref m_heap, .ref m_pickTet, .ref m_pickEdge, .ref m_base, .ref m_baseM, .ref m_baseP, .ref m_rowsOf, .int 0, .ref m_grid, .ref m_times, .ref m_boxes, .ref m_cameFrom, .ref m_cameBy, .ref m_steps, .ref m_sides, .int w9, .int (-1), .ref m_next, .ref m_cube, .ref m_ways])), (m_next, .inl (cI, 3, (.inl fn)))]) [0, 1] rfl
        have hD9 := hD.sub (ws' := [(m0, .inr (11, [.int 0, .ref m_tape, .int 0, .int 0, .int 0, .ref m_read, .int 0, .int 0, .int 0, .ref m_tets, .int 0, .int 0, .int 0, .int 0, .int 0, .int 0, .int 0, .int 0, .ref m_primes, .ref m_often, .ref m_normal, .ref m_termM, .ref m_termP, .ref m_termV, .ref m_sumFrom, .ref m_sumMany, .int 0, .int 0, .int 0, .int 0, .ref m_part, .ref m_fair, .ref m_heap, .ref m_pickTet, .ref m_pickEdge, .ref m_base, .ref m_baseM, .ref m_baseP, .ref m_rowsOf, .int 0, .ref m_grid, .ref m_times, .ref m_boxes, .ref m_cameFrom, .ref m_cameBy, .ref m_steps, .ref m_sides, .int w9, .int (-1), .ref m_next, .ref m_cube, .ref m_ways])), (m_next, .inl (cI, 3, (.inl fn)))]) [0, 1] (by decide) rfl
        refine W.widen (k := 0) (n := 0) (Nat.le_of_ble_eq_true rfl) (Nat.le_of_ble_eq_true rfl) ?_
        exact W.zret (v := 0) hx hb hr (by decide) (fun t ht hW => ⟨⟨0, (), rfl, (Or.inl ⟨rfl, (fun h9 => c_12 h9.2.2)⟩), fn, (fun h9 => absurd h9 (fun h9 => c_12 h9.2.2)), by rw [ht]; exact hP9, va_K.moved hW.alike hK, hD9⟩, hS.F ht⟩) hS.2.2 dX11_goes__42
set_option maxHeartbeats 4000000 in
set_option maxRecDepth 100000 in
theorem c_X11_goes__12 (l : Launch) (dC : Nat → ClassId) (dI : Nat → Nat → Nat) (cB cI cJ : ClassId) (sz : Nat) (m0 m_tape m_read m_tets m_primes m_often m_normal m_termM m_termP m_termV m_sumFrom m_sumMany m_part m_fair m_heap m_pickTet m_pickEdge m_base m_baseM m_baseP m_rowsOf m_grid m_times m_boxes m_cameFrom m_cameBy m_steps m_sides m_next m_cube m_ways : Nat) (w9 : Int32) (fn : Nat → Int32) (u0 u1 u2 n : Nat) (hu : (1 ≤ u0 ∧ u0 ≤ 24) ∧ (1 ≤ u1 ∧ u1 ≤ 24) ∧ (1 ≤ u2 ∧ u2 ≤ 24)) (hn : 2 ≤ n ∧ n ≤ 24) (hs : fn 0 = nI u0 ∧ fn 1 = nI u1 ∧ fn 2 = nI u2) : Met l yX11_goes_ wsX11_goes_ ({ frames := 1, cells := 0, slots := 0, locals := 24 }) (va_Pc [.ref m0, .int 1, .int 2, .int (nI n)] (fun U => U.heap.size = sz ∧ va_P (dC, dI) vwCl [(m0, .inr (11, [.int 0, .ref m_tape, .int 0, .int 0, .int 0, .ref m_read, .int 0, .int 0, .int 0, .ref m_tets, .int 0, .int 0, .int 0, .int 0, .int 0, .int 0, .int 0, .int 0, .ref m_primes, .ref m_often, .ref m_normal, .ref m_termM, .ref m_termP, .ref m_termV, .ref m_sumFrom, .ref m_sumMany, .int 0, .int 0, .int 0, .int 0, .ref m_part, .ref m_fair, .ref m_heap, .ref m_pickTet, .ref m_pickEdge, .ref m_base, .ref m_baseM, .ref m_baseP, .ref m_rowsOf, .int 0, .ref m_grid, .ref m_times, .ref m_boxes, .ref m_cameFrom, .ref m_cameBy, .ref m_steps, .ref m_sides, .int w9, .int (-1), .ref m_next, .ref m_cube, .ref m_ways])), (m_next, .inl (cI, 3, (.inl fn)))] U.heap ∧ va_K (dC, dI) vwCl [(cB, .byte), (cI, .int), (cJ, .long)] U ∧ va_D (fun _ => True) [(m0, .inr (11, [.int 0, .ref m_tape, .int 0, .int 0, .int 0, .ref m_read, .int 0, .int 0, .int 0, .ref m_tets, .int 0, .int 0, .int 0, .int 0, .int 0, .int 0, .int 0, .int 0, .ref m_primes, .ref m_often, .ref m_normal, .ref m_termM, .ref m_termP, .ref m_termV, .ref m_sumFrom, .ref m_sumMany, .int 0, .int 0, .int 0, .int 0, .ref m_part, .ref m_fair, .ref m_heap, .ref m_pickTet, .ref m_pickEdge, .ref m_base, .ref m_baseM, .ref m_baseP, .ref m_rowsOf, .int 0, .ref m_grid, .ref m_times, .ref m_boxes, .ref m_cameFrom, .ref m_cameBy, .ref m_steps, .ref m_sides, .int w9, .int (-1), .ref m_next, .ref m_cube, .ref m_ways])), (m_next, .inl (cI, 3, (.inl fn)))])) (va_Qi (fun (r : Int32) (_ : Unit) => (r = 0 ∧ ¬ (sd u0 u1 u2 1 % n = 0 ∧ sd u0 u1 u2 2 % (n - 1) = 0 ∧ sd u0 u1 u2 2 / (n - 1) * n ≤ 24)) ∨ (r = 1 ∧ (sd u0 u1 u2 1 % n = 0 ∧ sd u0 u1 u2 2 % (n - 1) = 0 ∧ sd u0 u1 u2 2 / (n - 1) * n ≤ 24))) (fun _ t => ∃ fz : Nat → Int32, ((sd u0 u1 u2 1 % n = 0 ∧ sd u0 u1 u2 2 % (n - 1) = 0 ∧ sd u0 u1 u2 2 / (n - 1) * n ≤ 24) → fz 0 = nI (u0) ∧ fz 1 = nI (u1 / n * (n - 1)) ∧ fz 2 = nI (u2 / (n - 1) * n)) ∧ va_P (dC, dI) vwCl [(m0, .inr (11, [.int 0, .ref m_tape, .int 0, .int 0, .int 0, .ref m_read, .int 0, .int 0, .int 0, .ref m_tets, .int 0, .int 0, .int 0, .int 0, .int 0, .int 0, .int 0, .int 0, .ref m_primes, .ref m_often, .ref m_normal, .ref m_termM, .ref m_termP, .ref m_termV, .ref m_sumFrom, .ref m_sumMany, .int 0, .int 0, .int 0, .int 0, .ref m_part, .ref m_fair, .ref m_heap, .ref m_pickTet, .ref m_pickEdge, .ref m_base, .ref m_baseM, .ref m_baseP, .ref m_rowsOf, .int 0, .ref m_grid, .ref m_times, .ref m_boxes, .ref m_cameFrom, .ref m_cameBy, .ref m_steps, .ref m_sides, .int w9, .int (-1), .ref m_next, .ref m_cube, .ref m_ways])), (m_next, .inl (cI, 3, (.inl fz)))] t.heap ∧ va_K (dC, dI) vwCl [(cB, .byte), (cI, .int), (cJ, .long)] t ∧ va_D (va_A [(m0, .inr (11, [.int 0, .ref m_tape, .int 0, .int 0, .int 0, .ref m_read, .int 0, .int 0, .int 0, .ref m_tets, .int 0, .int 0, .int 0, .int 0, .int 0, .int 0, .int 0, .int 0, .ref m_primes, .ref m_often, .ref m_normal, .ref m_termM, .ref m_termP, .ref m_termV, .ref m_sumFrom, .ref m_sumMany, .int 0, .int 0, .int 0, .int 0, .ref m_part, .ref m_fair, .ref m_heap, .ref m_pickTet, .ref m_pickEdge, .ref m_base, .ref m_baseM, .ref m_baseP, .ref m_rowsOf, .int 0, .ref m_grid, .ref m_times, .ref m_boxes, .ref m_cameFrom, .ref m_cameBy, .ref m_steps, .ref m_sides, .int w9, .int (-1), .ref m_next, .ref m_cube, .ref m_ways])), (m_next, .inl (cI, 3, (.inl fn)))] sz) [(m0, .inr (11, [.int 0, .ref m_tape, .int 0, .int 0, .int 0, .ref m_read, .int 0, .int 0, .int 0, .ref m_tets, .int 0, .int 0, .int 0, .int 0, .int 0, .int 0, .int 0, .int 0, .ref m_primes, .ref m_often, .ref m_normal, .ref m_termM, .ref m_termP, .ref m_termV, .ref m_sumFrom, .ref m_sumMany, .int 0, .int 0, .int 0, .int 0, .ref m_part, .ref m_fair, .ref m_heap, .ref m_pickTet, .ref m_pickEdge, .ref m_base, .ref m_baseM, .ref m_baseP, .ref m_rowsOf, .int 0, .ref m_grid, .ref m_times, .ref m_boxes, .ref m_cameFrom, .ref m_cameBy, .ref m_steps, .ref m_sides, .int w9, .int (-1), .ref m_next, .ref m_cube, .ref m_ways])), (m_next, .inl (cI, 3, (.inl fz)))]) (va_A [(m0, .inr (11, [.int 0, .ref m_tape, .int 0, .int 0, .int 0, .ref m_read, .int 0, .int 0, .int 0, .ref m_tets, .int 0, .int 0, .int 0, .int 0, .int 0, .int 0, .int 0, .int 0, .ref m_primes, .ref m_often, .ref m_normal, .ref m_termM, .ref m_termP, .ref m_termV, .ref m_sumFrom, .ref m_sumMany, .int 0, .int 0, .int 0, .int 0, .ref m_part, .ref m_fair, .ref m_heap, .ref m_pickTet, .ref m_pickEdge, .ref m_base, .ref m_baseM, .ref m_baseP, .ref m_rowsOf, .int 0, .ref m_grid, .ref m_times, .ref m_boxes, .ref m_cameFrom, .ref m_cameBy, .ref m_steps, .ref m_sides, .int w9, .int (-1), .ref m_next, .ref m_cube, .ref m_ways])), (m_next, .inl (cI, 3, (.inl fn)))] sz)) 0 0 (va_A [(m0, .inr (11, [.int 0, .ref m_tape, .int 0, .int 0, .int 0, .ref m_read, .int 0, .int 0, .int 0, .ref m_tets, .int 0, .int 0, .int 0, .int 0, .int 0, .int 0, .int 0, .int 0, .ref m_primes, .ref m_often, .ref m_normal, .ref m_termM, .ref m_termP, .ref m_termV, .ref m_sumFrom, .ref m_sumMany, .int 0, .int 0, .int 0, .int 0, .ref m_part, .ref m_fair, .ref m_heap, .ref m_pickTet, .ref m_pickEdge, .ref m_base, .ref m_baseM, .ref m_baseP, .ref m_rowsOf, .int 0, .ref m_grid, .ref m_times, .ref m_boxes, .ref m_cameFrom, .ref m_cameBy, .ref m_steps, .ref m_sides, .int w9, .int (-1), .ref m_next, .ref m_cube, .ref m_ways])), (m_next, .inl (cI, 3, (.inl fn)))] sz) := by
  refine Met.ofW (cc := cX11_goes_) (maxL := 4) (ret := (some .boolean)) (by decide) rfl ?_
  intro p e s m args below meth c s₁ B hml hv
  obtain ⟨rfl, hsz, hP, hK, hD0⟩ := hv
  have hx := B.exec
  have hb := B.bytes
  have hr := B.returns
  have hts := atoms_spec (ws := wsX11_goes_) B.pre
  have hown : s.vm.findClass RX11 = some m.cls := findClass_of_methodNamed B.named
  have hlocks := B.notSynchronized
  have hiX11 : ∀ w ∈ u_ws RX11 TX11 52, w ∈ wsX11_goes_ := by decide +kernel
  subst hsz
  have hD := hD0.self (sz := s.heap.size)
  generalize hAe : va_A [(m0, .inr (11, [.int 0, .ref m_tape, .int 0, .int 0, .int 0, .ref m_read, .int 0, .int 0, .int 0, .ref m_tets, .int 0, .int 0, .int 0, .int 0, .int 0, .int 0, .int 0, .int 0, .ref m_primes, .ref m_often, .ref m_normal, .ref m_termM, .ref m_termP, .ref m_termV, .ref m_sumFrom, .ref m_sumMany, .int 0, .int 0, .int 0, .int 0, .ref m_part, .ref m_fair, .ref m_heap, .ref m_pickTet, .ref m_pickEdge, .ref m_base, .ref m_baseM, .ref m_baseP, .ref m_rowsOf, .int 0, .ref m_grid, .ref m_times, .ref m_boxes, .ref m_cameFrom, .ref m_cameBy, .ref m_steps, .ref m_sides, .int w9, .int (-1), .ref m_next, .ref m_cube, .ref m_ways])), (m_next, .inl (cI, 3, (.inl fn)))] s.heap.size = A at hD ⊢
  have hA : ∀ q : Nat, s.heap.size ≤ q → A q := fun q h => by rw [← hAe]; exact Or.inr h
  have hS : va_S A s.heap s.heap [] := va_S.rf
  have hP : va_P (dC, dI) vwCl [(m0, .inr (11, [.int 0, .ref m_tape, .int 0, .int 0, .int 0, .ref m_read, .int 0, .int 0, .int 0, .ref m_tets, .int 0, .int 0, .int 0, .int 0, .int 0, .int 0, .int 0, .int 0, .ref m_primes, .ref m_often, .ref m_normal, .ref m_termM, .ref m_termP, .ref m_termV, .ref m_sumFrom, .ref m_sumMany, .int 0, .int 0, .int 0, .int 0, .ref m_part, .ref m_fair, .ref m_heap, .ref m_pickTet, .ref m_pickEdge, .ref m_base, .ref m_baseM, .ref m_baseP, .ref m_rowsOf, .int 0, .ref m_grid, .ref m_times, .ref m_boxes, .ref m_cameFrom, .ref m_cameBy, .ref m_steps, .ref m_sides, .int w9, .int (-1), .ref m_next, .ref m_cube, .ref m_ways])), (m_next, .inl (cI, 3, (.inl fn)))] s.heap := hP
  have hl := lv_entry ([.ref m0, .int 1, .int 2, .int (nI n)]) (n := 4) (Nat.le_of_ble_eq_true rfl)
  rw [lg_entry_eq]
  generalize (lg_sl ([.ref m0, .int 1, .int 2, .int (nI n)]) ++ List.replicate (4 - (lg_sl ([.ref m0, .int 1, .int 2, .int (nI n)])).length) Slot.unset).toArray = ls at hl ⊢
  have hl : lv_has ls 4 [(0, .ref m0), (1, .int 1), (2, .int 2), (3, .int (nI n))] := hl
  have r1 : u1 % n ≤ 24 := Nat.le_trans (Nat.mod_le _ _) (by omega)
  have r2 : u2 % (n - 1) ≤ 24 := Nat.le_trans (Nat.mod_le _ _) (by omega)
  refine lv_aload_n hx hb dX11_goes__0 rfl (lv_at hl 0 rfl) ?_
  refine va_get (D := (dC, dI)) (ci := 11) (v := .ref m_next) (C := RX11) (T := TX11) (N := 52) hx hb hts hiX11 hown hK hP 0 rfl rfl 49 (by decide) (hts (.fieldLink RX11 97 "ScissorsTableModel" "next" "[I") (by decide +kernel)) (fun _ h9 => h9) rfl dX11_goes__1 ?_
  refine lv_iload_n hx hb dX11_goes__4 rfl (lv_at hl 1 rfl) ?_
  refine va_iald hx hb hK hP 1 1 rfl rfl (by show ¬ (_ ∨ _); decide) dX11_goes__5 ?_
  refine lv_topi (fun x_1 ex_1 => ?_)
  have ex_1 : x_1 = fn 1 := ex_1
  obtain rfl : x_1 = nI u1 := ex_1.trans hs.2.1
  refine lv_iload_n hx hb dX11_goes__6 rfl (lv_at hl 3 rfl) ?_
  refine lv_irem hx hb dX11_goes__7 (nI_ne0 (by omega) (by omega)) ?_
  refine lv_topi (fun x_2 ex_2 => ?_)
  obtain rfl : x_2 = nI (u1 % n) := ex_2.trans (pk_rem (a := u1) (d := n) (by omega) (by omega) (by omega))
  refine lv_if_ne (tgt := 41) hx hb dX11_goes__8 (by decide) (fun c_3 => ?_) (fun c_3 => ?_)
  · have c_3 : ¬ (u1 % n) = 0 := fun q9 => c_3 ((nI_eq (a := u1 % n) (b := 0) (by omega) (by omega)).mpr q9)
    refine lv_iconst (v := 0) hx hb dX11_goes__41 (by decide) ?_
    have hP9 := hP.sub (ws' := [(m0, .inr (11, [.int 0, .ref m_tape, .int 0, .int 0, .int 0, .ref m_read, .int 0, .int 0, .int 0, .ref m_tets, .int 0, .int 0, .int 0, .int 0, .int 0, .int 0, .int 0, .int 0, .ref m_primes, .ref m_often, .ref m_normal, .ref m_termM, .ref m_termP, .ref m_termV, .ref m_sumFrom, .ref m_sumMany, .int 0, .int 0, .int 0, .int 0, .ref m_part, .ref m_fair, .ref m_heap, .ref m_pickTet, .ref m_pickEdge, .ref m_base, .ref m_baseM, .ref m_baseP, .ref m_rowsOf, .int 0, .ref m_grid, .ref m_times, .ref m_boxes, .ref m_cameFrom, .ref m_cameBy, .ref m_steps, .ref m_sides, .int w9, .int (-1), .ref m_next, .ref m_cube, .ref m_ways])), (m_next, .inl (cI, 3, (.inl fn)))]) [0, 1] rfl
    have hD9 := hD.sub (ws' := [(m0, .inr (11, [.int 0, .ref m_tape, .int 0, .int 0, .int 0, .ref m_read, .int 0, .int 0, .int 0, .ref m_tets, .int 0, .int 0, .int 0, .int 0, .int 0, .int 0, .int 0, .int 0, .ref m_primes, .ref m_often, .ref m_normal, .ref m_termM, .ref m_termP, .ref m_termV, .ref m_sumFrom, .ref m_sumMany, .int 0, .int 0, .int 0, .int 0, .ref m_part, .ref m_fair, .ref m_heap, .ref m_pickTet, .ref m_pickEdge, .ref m_base, .ref m_baseM, .ref m_baseP, .ref m_rowsOf, .int 0, .ref m_grid, .ref m_times, .ref m_boxes, .ref m_cameFrom, .ref m_cameBy, .ref m_steps, .ref m_sides, .int w9, .int (-1), .ref m_next, .ref m_cube, .ref m_ways])), (m_next, .inl (cI, 3, (.inl fn)))]) [0, 1] (by decide) rfl
    refine W.widen (k := 0) (n := 0) (Nat.le_of_ble_eq_true rfl) (Nat.le_of_ble_eq_true rfl) ?_
    exact W.zret (v := 0) hx hb hr (by decide) (fun t ht hW => ⟨⟨0, (), rfl, (Or.inl ⟨rfl, (fun h9 => c_3 h9.1)⟩), fn, (fun h9 => absurd h9 (fun h9 => c_3 h9.1)), by rw [ht]; exact hP9, va_K.moved hW.alike hK, hD9⟩, hS.F ht⟩) hS.2.2 dX11_goes__42
  · have c_3 : (u1 % n) = 0 := (nI_eq (a := u1 % n) (b := 0) (by omega) (by omega)).mp c_3
    refine lv_aload_n hx hb dX11_goes__11 rfl (lv_at hl 0 rfl) ?_
    refine va_get (D := (dC, dI)) (ci := 11) (v := .ref m_next) (C := RX11) (T := TX11) (N := 52) hx hb hts hiX11 hown hK hP 0 rfl rfl 49 (by decide) (hts (.fieldLink RX11 97 "ScissorsTableModel" "next" "[I") (by decide +kernel)) (fun _ h9 => h9) rfl dX11_goes__12 ?_
    refine lv_iload_n hx hb dX11_goes__15 rfl (lv_at hl 2 rfl) ?_
    refine va_iald hx hb hK hP 1 1 rfl rfl (by show ¬ (_ ∨ _); decide) dX11_goes__16 ?_
    refine lv_topi (fun x_4 ex_4 => ?_)
    have ex_4 : x_4 = fn 2 := ex_4
    obtain rfl : x_4 = nI u2 := ex_4.trans hs.2.2
    refine lv_iload_n hx hb dX11_goes__17 rfl (lv_at hl 3 rfl) ?_
    refine lv_iconst (v := 1) hx hb dX11_goes__18 (by decide) ?_
    refine lv_isub hx hb dX11_goes__19 ?_
    refine lv_topi (fun x_5 ex_5 => ?_)
    obtain rfl : x_5 = nI (n - 1) := ex_5.trans (pk_sub (a := n) (b := 1) (by omega))
    refine lv_irem hx hb dX11_goes__20 (nI_ne0 (by omega) (by omega)) ?_
    refine lv_topi (fun x_6 ex_6 => ?_)
    obtain rfl : x_6 = nI (u2 % (n - 1)) := ex_6.trans (pk_rem (a := u2) (d := n - 1) (by omega) (by omega) (by omega))
    refine lv_if_ne (tgt := 41) hx hb dX11_goes__21 (by decide) (fun c_7 => ?_) (fun c_7 => ?_)
    · have c_7 : ¬ (u2 % (n - 1)) = 0 := fun q9 => c_7 ((nI_eq (a := u2 % (n - 1)) (b := 0) (by omega) (by omega)).mpr q9)
      refine lv_iconst (v := 0) hx hb dX11_goes__41 (by decide) ?_
      have hP9 := hP.sub (ws' := [(m0, .inr (11, [.int 0, .ref m_tape, .int 0, .int 0, .int 0, .ref m_read, .int 0, .int 0, .int 0, .ref m_tets, .int 0, .int 0, .int 0, .int 0, .int 0, .int 0, .int 0, .int 0, .ref m_primes, .ref m_often, .ref m_normal, .ref m_termM, .ref m_termP, .ref m_termV, .ref m_sumFrom, .ref m_sumMany, .int 0, .int 0, .int 0, .int 0, .ref m_part, .ref m_fair, .ref m_heap, .ref m_pickTet, .ref m_pickEdge, .ref m_base, .ref m_baseM, .ref m_baseP, .ref m_rowsOf, .int 0, .ref m_grid, .ref m_times, .ref m_boxes, .ref m_cameFrom, .ref m_cameBy, .ref m_steps, .ref m_sides, .int w9, .int (-1), .ref m_next, .ref m_cube, .ref m_ways])), (m_next, .inl (cI, 3, (.inl fn)))]) [0, 1] rfl
      have hD9 := hD.sub (ws' := [(m0, .inr (11, [.int 0, .ref m_tape, .int 0, .int 0, .int 0, .ref m_read, .int 0, .int 0, .int 0, .ref m_tets, .int 0, .int 0, .int 0, .int 0, .int 0, .int 0, .int 0, .int 0, .ref m_primes, .ref m_often, .ref m_normal, .ref m_termM, .ref m_termP, .ref m_termV, .ref m_sumFrom, .ref m_sumMany, .int 0, .int 0, .int 0, .int 0, .ref m_part, .ref m_fair, .ref m_heap, .ref m_pickTet, .ref m_pickEdge, .ref m_base, .ref m_baseM, .ref m_baseP, .ref m_rowsOf, .int 0, .ref m_grid, .ref m_times, .ref m_boxes, .ref m_cameFrom, .ref m_cameBy, .ref m_steps, .ref m_sides, .int w9, .int (-1), .ref m_next, .ref m_cube, .ref m_ways])), (m_next, .inl (cI, 3, (.inl fn)))]) [0, 1] (by decide) rfl
      refine W.widen (k := 0) (n := 0) (Nat.le_of_ble_eq_true rfl) (Nat.le_of_ble_eq_true rfl) ?_
      exact W.zret (v := 0) hx hb hr (by decide) (fun t ht hW => ⟨⟨0, (), rfl, (Or.inl ⟨rfl, (fun h9 => c_7 h9.2.1)⟩), fn, (fun h9 => absurd h9 (fun h9 => c_7 h9.2.1)), by rw [ht]; exact hP9, va_K.moved hW.alike hK, hD9⟩, hS.F ht⟩) hS.2.2 dX11_goes__42
    · have c_7 : (u2 % (n - 1)) = 0 := (nI_eq (a := u2 % (n - 1)) (b := 0) (by omega) (by omega)).mp c_7
      have hdl : u2 / (n - 1) * n ≤ 24 * 24 := Nat.mul_le_mul (Nat.le_trans (Nat.div_le_self _ _) (by omega)) hn.2
      refine lv_aload_n hx hb dX11_goes__24 rfl (lv_at hl 0 rfl) ?_
      refine va_get (D := (dC, dI)) (ci := 11) (v := .ref m_next) (C := RX11) (T := TX11) (N := 52) hx hb hts hiX11 hown hK hP 0 rfl rfl 49 (by decide) (hts (.fieldLink RX11 97 "ScissorsTableModel" "next" "[I") (by decide +kernel)) (fun _ h9 => h9) rfl dX11_goes__25 ?_
      refine lv_iload_n hx hb dX11_goes__28 rfl (lv_at hl 2 rfl) ?_
      refine va_iald hx hb hK hP 1 1 rfl rfl (by show ¬ (_ ∨ _); decide) dX11_goes__29 ?_
      refine lv_topi (fun x_8 ex_8 => ?_)
      have ex_8 : x_8 = fn 2 := ex_8
      obtain rfl : x_8 = nI u2 := ex_8.trans hs.2.2
      refine lv_iload_n hx hb dX11_goes__30 rfl (lv_at hl 3 rfl) ?_
      refine lv_iconst (v := 1) hx hb dX11_goes__31 (by decide) ?_
      refine lv_isub hx hb dX11_goes__32 ?_
      refine lv_topi (fun x_9 ex_9 => ?_)
      obtain rfl : x_9 = nI (n - 1) := ex_9.trans (pk_sub (a := n) (b := 1) (by omega))
      refine lv_idiv hx hb dX11_goes__33 (nI_ne0 (by omega) (by omega)) ?_
      refine lv_topi (fun x_10 ex_10 => ?_)
      obtain rfl : x_10 = nI (u2 / (n - 1)) := ex_10.trans (pk_div (a := u2) (d := n - 1) (by omega) (by omega) (by omega))
      refine lv_iload_n hx hb dX11_goes__34 rfl (lv_at hl 3 rfl) ?_
      refine lv_imul hx hb dX11_goes__35 ?_
      refine lv_topi (fun x_11 ex_11 => ?_)
      obtain rfl : x_11 = nI ((u2 / (n - 1)) * n) := ex_11.trans (pk_mul (u2 / (n - 1)) n)
      refine lv_bipush (v := 24) hx hb dX11_goes__36 (by decide) ?_
      refine lv_icmp_le (tgt := 43) hx hb dX11_goes__38 (by decide) (fun c_12 => ?_) (fun c_12 => ?_)
      · have c_12 : ((u2 / (n - 1)) * n) ≤ 24 := (nI_leI (a := (u2 / (n - 1)) * n) (b := 24) (by omega) (by omega)).mp c_12
        refine lv_aload_n hx hb dX11_goes__43 rfl (lv_at hl 0 rfl) ?_
        refine va_get (D := (dC, dI)) (ci := 11) (v := .ref m_next) (C := RX11) (T := TX11) (N := 52) hx hb hts hiX11 hown hK hP 0 rfl rfl 49 (by decide) (hts (.fieldLink RX11 97 "ScissorsTableModel" "next" "[I") (by decide +kernel)) (fun _ h9 => h9) rfl dX11_goes__44 ?_
        refine lv_iload_n hx hb dX11_goes__47 rfl (lv_at hl 1 rfl) ?_
        refine lv_aload_n hx hb dX11_goes__48 rfl (lv_at hl 0 rfl) ?_
        refine va_get (D := (dC, dI)) (ci := 11) (v := .ref m_next) (C := RX11) (T := TX11) (N := 52) hx hb hts hiX11 hown hK hP 0 rfl rfl 49 (by decide) (hts (.fieldLink RX11 97 "ScissorsTableModel" "next" "[I") (by decide +kernel)) (fun _ h9 => h9) rfl dX11_goes__49 ?_
        refine lv_iload_n hx hb dX11_goes__52 rfl (lv_at hl 1 rfl) ?_
        refine va_iald hx hb hK hP 1 1 rfl rfl (by show ¬ (_ ∨ _); decide) dX11_goes__53 ?_
        refine lv_topi (fun x_13 ex_13 => ?_)
        have ex_13 : x_13 = fn 1 := ex_13
        obtain rfl : x_13 = nI u1 := ex_13.trans hs.2.1
        refine lv_iload_n hx hb dX11_goes__54 rfl (lv_at hl 3 rfl) ?_
        refine lv_idiv hx hb dX11_goes__55 (nI_ne0 (by omega) (by omega)) ?_
        refine lv_topi (fun x_14 ex_14 => ?_)
        obtain rfl : x_14 = nI (u1 / n) := ex_14.trans (pk_div (a := u1) (d := n) (by omega) (by omega) (by omega))
        refine lv_iload_n hx hb dX11_goes__56 rfl (lv_at hl 3 rfl) ?_
        refine lv_iconst (v := 1) hx hb dX11_goes__57 (by decide) ?_
        refine lv_isub hx hb dX11_goes__58 ?_
        refine lv_topi (fun x_15 ex_15 => ?_)
        obtain rfl : x_15 = nI (n - 1) := ex_15.trans (pk_sub (a := n) (b := 1) (by omega))
        refine lv_imul hx hb dX11_goes__59 ?_
        refine lv_topi (fun x_16 ex_16 => ?_)
        obtain rfl : x_16 = nI ((u1 / n) * (n - 1)) := ex_16.trans (pk_mul (u1 / n) (n - 1))
        refine va_iast hx hb hK hP hD hS 1 1 rfl rfl (by show ¬ (_ ∨ _); decide) dX11_goes__60 (fun H locs hP hD hS => ?_)
        rw [show (1 : Int32).toNatClampNeg = 1 from rfl] at hP hD
        have hP : va_P (dC, dI) vwCl [(m0, .inr (11, [.int 0, .ref m_tape, .int 0, .int 0, .int 0, .ref m_read, .int 0, .int 0, .int 0, .ref m_tets, .int 0, .int 0, .int 0, .int 0, .int 0, .int 0, .int 0, .int 0, .ref m_primes, .ref m_often, .ref m_normal, .ref m_termM, .ref m_termP, .ref m_termV, .ref m_sumFrom, .ref m_sumMany, .int 0, .int 0, .int 0, .int 0, .ref m_part, .ref m_fair, .ref m_heap, .ref m_pickTet, .ref m_pickEdge, .ref m_base, .ref m_baseM, .ref m_baseP, .ref m_rowsOf, .int 0, .ref m_grid, .ref m_times, .ref m_boxes, .ref m_cameFrom, .ref m_cameBy, .ref m_steps, .ref m_sides, .int w9, .int (-1), .ref m_next, .ref m_cube, .ref m_ways])), (m_next, .inl (cI, 3, (.inl (upd fn 1 (nI ((u1 / n) * (n - 1)))))))] H := hP
        have hD : va_D A [(m0, .inr (11, [.int 0, .ref m_tape, .int 0, .int 0, .int 0, .ref m_read, .int 0, .int 0, .int 0, .ref m_tets, .int 0, .int 0, .int 0, .int 0, .int 0, .int 0, .int 0, .int 0, .ref m_primes, .ref m_often, .ref m_normal, .ref m_termM, .ref m_termP, .ref m_termV, .ref m_sumFrom, .ref m_sumMany, .int 0, .int 0, .int 0, .int 0, .ref m_part, .ref m_fair, .ref m_heap, .ref m_pickTet, .ref m_pickEdge, .ref m_base, .ref m_baseM, .ref m_baseP, .ref m_rowsOf, .int 0, .ref m_grid, .ref m_times, .ref m_boxes, .ref m_cameFrom, .ref m_cameBy, .ref m_steps, .ref m_sides, .int w9, .int (-1), .ref m_next, .ref m_cube, .ref m_ways])), (m_next, .inl (cI, 3, (.inl (upd fn 1 (nI ((u1 / n) * (n - 1)))))))] := hD
        refine lv_aload_n hx hb dX11_goes__61 rfl (lv_at hl 0 rfl) ?_
        refine va_get (D := (dC, dI)) (ci := 11) (v := .ref m_next) (C := RX11) (T := TX11) (N := 52) hx hb hts hiX11 hown hK hP 0 rfl rfl 49 (by decide) (hts (.fieldLink RX11 97 "ScissorsTableModel" "next" "[I") (by decide +kernel)) (fun _ h9 => h9) rfl dX11_goes__62 ?_
        refine lv_iload_n hx hb dX11_goes__65 rfl (lv_at hl 2 rfl) ?_
        refine lv_aload_n hx hb dX11_goes__66 rfl (lv_at hl 0 rfl) ?_
        refine va_get (D := (dC, dI)) (ci := 11) (v := .ref m_next) (C := RX11) (T := TX11) (N := 52) hx hb hts hiX11 hown hK hP 0 rfl rfl 49 (by decide) (hts (.fieldLink RX11 97 "ScissorsTableModel" "next" "[I") (by decide +kernel)) (fun _ h9 => h9) rfl dX11_goes__67 ?_
        refine lv_iload_n hx hb dX11_goes__70 rfl (lv_at hl 2 rfl) ?_
        refine va_iald hx hb hK hP 1 1 rfl rfl (by show ¬ (_ ∨ _); decide) dX11_goes__71 ?_
        refine lv_topi (fun x_17 ex_17 => ?_)
        have ex_17 : x_17 = (upd fn 1 (nI ((u1 / n) * (n - 1)))) 2 := ex_17
        obtain rfl : x_17 = nI u2 := ex_17.trans ((pk_un (by decide)).trans hs.2.2)
        refine lv_iload_n hx hb dX11_goes__72 rfl (lv_at hl 3 rfl) ?_
        refine lv_iconst (v := 1) hx hb dX11_goes__73 (by decide) ?_
        refine lv_isub hx hb dX11_goes__74 ?_
        refine lv_topi (fun x_18 ex_18 => ?_)
        obtain rfl : x_18 = nI (n - 1) := ex_18.trans (pk_sub (a := n) (b := 1) (by omega))
        refine lv_idiv hx hb dX11_goes__75 (nI_ne0 (by omega) (by omega)) ?_
        refine lv_topi (fun x_19 ex_19 => ?_)
        obtain rfl : x_19 = nI (u2 / (n - 1)) := ex_19.trans (pk_div (a := u2) (d := n - 1) (by omega) (by omega) (by omega))
        refine lv_iload_n hx hb dX11_goes__76 rfl (lv_at hl 3 rfl) ?_
        refine lv_imul hx hb dX11_goes__77 ?_
        refine lv_topi (fun x_20 ex_20 => ?_)
        obtain rfl : x_20 = nI ((u2 / (n - 1)) * n) := ex_20.trans (pk_mul (u2 / (n - 1)) n)
        refine va_iast hx hb hK hP hD hS 1 1 rfl rfl (by show ¬ (_ ∨ _); decide) dX11_goes__78 (fun H locs hP hD hS => ?_)
        rw [show (2 : Int32).toNatClampNeg = 2 from rfl] at hP hD
        have hP : va_P (dC, dI) vwCl [(m0, .inr (11, [.int 0, .ref m_tape, .int 0, .int 0, .int 0, .ref m_read, .int 0, .int 0, .int 0, .ref m_tets, .int 0, .int 0, .int 0, .int 0, .int 0, .int 0, .int 0, .int 0, .ref m_primes, .ref m_often, .ref m_normal, .ref m_termM, .ref m_termP, .ref m_termV, .ref m_sumFrom, .ref m_sumMany, .int 0, .int 0, .int 0, .int 0, .ref m_part, .ref m_fair, .ref m_heap, .ref m_pickTet, .ref m_pickEdge, .ref m_base, .ref m_baseM, .ref m_baseP, .ref m_rowsOf, .int 0, .ref m_grid, .ref m_times, .ref m_boxes, .ref m_cameFrom, .ref m_cameBy, .ref m_steps, .ref m_sides, .int w9, .int (-1), .ref m_next, .ref m_cube, .ref m_ways])), (m_next, .inl (cI, 3, (.inl (upd (upd fn 1 (nI ((u1 / n) * (n - 1)))) 2 (nI ((u2 / (n - 1)) * n))))))] H := hP
        have hD : va_D A [(m0, .inr (11, [.int 0, .ref m_tape, .int 0, .int 0, .int 0, .ref m_read, .int 0, .int 0, .int 0, .ref m_tets, .int 0, .int 0, .int 0, .int 0, .int 0, .int 0, .int 0, .int 0, .ref m_primes, .ref m_often, .ref m_normal, .ref m_termM, .ref m_termP, .ref m_termV, .ref m_sumFrom, .ref m_sumMany, .int 0, .int 0, .int 0, .int 0, .ref m_part, .ref m_fair, .ref m_heap, .ref m_pickTet, .ref m_pickEdge, .ref m_base, .ref m_baseM, .ref m_baseP, .ref m_rowsOf, .int 0, .ref m_grid, .ref m_times, .ref m_boxes, .ref m_cameFrom, .ref m_cameBy, .ref m_steps, .ref m_sides, .int w9, .int (-1), .ref m_next, .ref m_cube, .ref m_ways])), (m_next, .inl (cI, 3, (.inl (upd (upd fn 1 (nI ((u1 / n) * (n - 1)))) 2 (nI ((u2 / (n - 1)) * n))))))] := hD
        refine lv_iconst (v := 1) hx hb dX11_goes__79 (by decide) ?_
        have hP9 := hP.sub (ws' := [(m0, .inr (11, [.int 0, .ref m_tape, .int 0, .int 0, .int 0, .ref m_read, .int 0, .int 0, .int 0, .ref m_tets, .int 0, .int 0, .int 0, .int 0, .int 0, .int 0, .int 0, .int 0, .ref m_primes, .ref m_often, .ref m_normal, .ref m_termM, .ref m_termP, .ref m_termV, .ref m_sumFrom, .ref m_sumMany, .int 0, .int 0, .int 0, .int 0, .ref m_part, .ref m_fair, .ref m_heap, .ref m_pickTet, .ref m_pickEdge, .ref m_base, .ref m_baseM, .ref m_baseP, .ref m_rowsOf, .int 0, .ref m_grid, .ref m_times, .ref m_boxes, .ref m_cameFrom, .ref m_cameBy, .ref m_steps, .ref m_sides, .int w9, .int (-1), .ref m_next, .ref m_cube, .ref m_ways])), (m_next, .inl (cI, 3, (.inl (upd (upd fn 1 (nI ((u1 / n) * (n - 1)))) 2 (nI ((u2 / (n - 1)) * n))))))]) [0, 1] rfl
        have hD9 := hD.sub (ws' := [(m0, .inr (11, [.int 0, .ref m_tape, .int 0, .int 0, .int 0, .ref m_read, .int 0, .int 0, .int 0, .ref m_tets, .int 0, .int 0, .int 0, .int 0, .int 0, .int 0, .int 0, .int 0, .ref m_primes, .ref m_often, .ref m_normal, .ref m_termM, .ref m_termP, .ref m_termV, .ref m_sumFrom, .ref m_sumMany, .int 0, .int 0, .int 0, .int 0, .ref m_part, .ref m_fair, .ref m_heap, .ref m_pickTet, .ref m_pickEdge, .ref m_base, .ref m_baseM, .ref m_baseP, .ref m_rowsOf, .int 0, .ref m_grid, .ref m_times, .ref m_boxes, .ref m_cameFrom, .ref m_cameBy, .ref m_steps, .ref m_sides, .int w9, .int (-1), .ref m_next, .ref m_cube, .ref m_ways])), (m_next, .inl (cI, 3, (.inl (upd (upd fn 1 (nI ((u1 / n) * (n - 1)))) 2 (nI ((u2 / (n - 1)) * n))))))]) [0, 1] (by decide) rfl
        refine W.widen (k := 0) (n := 0) (Nat.le_of_ble_eq_true rfl) (Nat.le_of_ble_eq_true rfl) ?_
        exact W.zret (v := 1) hx hb hr (by decide) (fun t ht hW => ⟨⟨1, (), rfl, (Or.inr ⟨rfl, ⟨c_3, c_7, c_12⟩⟩), (upd (upd fn 1 (nI ((u1 / n) * (n - 1)))) 2 (nI ((u2 / (n - 1)) * n))), (fun _ => ⟨(pk_un (by decide)).trans ((pk_un (by decide)).trans hs.1), (pk_un (by decide)).trans pk_us, pk_us⟩), by rw [ht]; exact hP9, va_K.moved hW.alike hK, hD9⟩, hS.F ht⟩) hS.2.2 dX11_goes__80
      · have c_12 : ¬ ((u2 / (n - 1)) * n) ≤ 24 := fun q9 => c_12 ((nI_leI (a := (u2 / (n - 1)) * n) (b := 24) (by omega) (by omega)).mpr q9)
        refine lv_iconst (v := 0) hx hb dX11_goes__41 (by decide) ?_
        have hP9 := hP.sub (ws' := [(m0, .inr (11, [.int 0, .ref m_tape, .int 0, .int 0, .int 0, .ref m_read, .int 0, .int 0, .int 0, .ref m_tets, .int 0, .int 0, .int 0, .int 0, .int 0, .int 0, .int 0, .int 0, .ref m_primes, .ref m_often, .ref m_normal, .ref m_termM, .ref m_termP, .ref m_termV, .ref m_sumFrom, .ref m_sumMany, .int 0, .int 0, .int 0, .int 0, .ref m_part, .ref m_fair, .ref m_heap, .ref m_pickTet, .ref m_pickEdge, .ref m_base, .ref m_baseM, .ref m_baseP, .ref m_rowsOf, .int 0, .ref m_grid, .ref m_times, .ref m_boxes, .ref m_cameFrom, .ref m_cameBy, .ref m_steps, .ref m_sides, .int w9, .int (-1), .ref m_next, .ref m_cube, .ref m_ways])), (m_next, .inl (cI, 3, (.inl fn)))]) [0, 1] rfl
        have hD9 := hD.sub (ws' := [(m0, .inr (11, [.int 0, .ref m_tape, .int 0, .int 0, .int 0, .ref m_read, .int 0, .int 0, .int 0, .ref m_tets, .int 0, .int 0, .int 0, .int 0, .int 0, .int 0, .int 0, .int 0, .ref m_primes, .ref m_often, .ref m_normal, .ref m_termM, .ref m_termP, .ref m_termV, .ref m_sumFrom, .ref m_sumMany, .int 0, .int 0, .int 0, .int 0, .ref m_part, .ref m_fair, .ref m_heap, .ref m_pickTet, .ref m_pickEdge, .ref m_base, .ref m_baseM, .ref m_baseP, .ref m_rowsOf, .int 0, .ref m_grid, .ref m_times, .ref m_boxes, .ref m_cameFrom, .ref m_cameBy, .ref m_steps, .ref m_sides, .int w9, .int (-1), .ref m_next, .ref m_cube, .ref m_ways])), (m_next, .inl (cI, 3, (.inl fn)))]) [0, 1] (by decide) rfl
        refine W.widen (k := 0) (n := 0) (Nat.le_of_ble_eq_true rfl) (Nat.le_of_ble_eq_true rfl) ?_
        exact W.zret (v := 0) hx hb hr (by decide) (fun t ht hW => ⟨⟨0, (), rfl, (Or.inl ⟨rfl, (fun h9 => c_12 h9.2.2)⟩), fn, (fun h9 => absurd h9 (fun h9 => c_12 h9.2.2)), by rw [ht]; exact hP9, va_K.moved hW.alike hK, hD9⟩, hS.F ht⟩) hS.2.2 dX11_goes__42
set_option maxHeartbeats 4000000 in
set_option maxRecDepth 100000 in
theorem c_X11_goes__20 (l : Launch) (dC : Nat → ClassId) (dI : Nat → Nat → Nat) (cB cI cJ : ClassId) (sz : Nat) (m0 m_tape m_read m_tets m_primes m_often m_normal m_termM m_termP m_termV m_sumFrom m_sumMany m_part m_fair m_heap m_pickTet m_pickEdge m_base m_baseM m_baseP m_rowsOf m_grid m_times m_boxes m_cameFrom m_cameBy m_steps m_sides m_next m_cube m_ways : Nat) (w9 : Int32) (fn : Nat → Int32) (u0 u1 u2 n : Nat) (hu : (1 ≤ u0 ∧ u0 ≤ 24) ∧ (1 ≤ u1 ∧ u1 ≤ 24) ∧ (1 ≤ u2 ∧ u2 ≤ 24)) (hn : 2 ≤ n ∧ n ≤ 24) (hs : fn 0 = nI u0 ∧ fn 1 = nI u1 ∧ fn 2 = nI u2) : Met l yX11_goes_ wsX11_goes_ ({ frames := 1, cells := 0, slots := 0, locals := 24 }) (va_Pc [.ref m0, .int 2, .int 0, .int (nI n)] (fun U => U.heap.size = sz ∧ va_P (dC, dI) vwCl [(m0, .inr (11, [.int 0, .ref m_tape, .int 0, .int 0, .int 0, .ref m_read, .int 0, .int 0, .int 0, .ref m_tets, .int 0, .int 0, .int 0, .int 0, .int 0, .int 0, .int 0, .int 0, .ref m_primes, .ref m_often, .ref m_normal, .ref m_termM, .ref m_termP, .ref m_termV, .ref m_sumFrom, .ref m_sumMany, .int 0, .int 0, .int 0, .int 0, .ref m_part, .ref m_fair, .ref m_heap, .ref m_pickTet, .ref m_pickEdge, .ref m_base, .ref m_baseM, .ref m_baseP, .ref m_rowsOf, .int 0, .ref m_grid, .ref m_times, .ref m_boxes, .ref m_cameFrom, .ref m_cameBy, .ref m_steps, .ref m_sides, .int w9, .int (-1), .ref m_next, .ref m_cube, .ref m_ways])), (m_next, .inl (cI, 3, (.inl fn)))] U.heap ∧ va_K (dC, dI) vwCl [(cB, .byte), (cI, .int), (cJ, .long)] U ∧ va_D (fun _ => True) [(m0, .inr (11, [.int 0, .ref m_tape, .int 0, .int 0, .int 0, .ref m_read, .int 0, .int 0, .int 0, .ref m_tets, .int 0, .int 0, .int 0, .int 0, .int 0, .int 0, .int 0, .int 0, .ref m_primes, .ref m_often, .ref m_normal, .ref m_termM, .ref m_termP, .ref m_termV, .ref m_sumFrom, .ref m_sumMany, .int 0, .int 0, .int 0, .int 0, .ref m_part, .ref m_fair, .ref m_heap, .ref m_pickTet, .ref m_pickEdge, .ref m_base, .ref m_baseM, .ref m_baseP, .ref m_rowsOf, .int 0, .ref m_grid, .ref m_times, .ref m_boxes, .ref m_cameFrom, .ref m_cameBy, .ref m_steps, .ref m_sides, .int w9, .int (-1), .ref m_next, .ref m_cube, .ref m_ways])), (m_next, .inl (cI, 3, (.inl fn)))])) (va_Qi (fun (r : Int32) (_ : Unit) => (r = 0 ∧ ¬ (sd u0 u1 u2 2 % n = 0 ∧ sd u0 u1 u2 0 % (n - 1) = 0 ∧ sd u0 u1 u2 0 / (n - 1) * n ≤ 24)) ∨ (r = 1 ∧ (sd u0 u1 u2 2 % n = 0 ∧ sd u0 u1 u2 0 % (n - 1) = 0 ∧ sd u0 u1 u2 0 / (n - 1) * n ≤ 24))) (fun _ t => ∃ fz : Nat → Int32, ((sd u0 u1 u2 2 % n = 0 ∧ sd u0 u1 u2 0 % (n - 1) = 0 ∧ sd u0 u1 u2 0 / (n - 1) * n ≤ 24) → fz 0 = nI (u0 / (n - 1) * n) ∧ fz 1 = nI (u1) ∧ fz 2 = nI (u2 / n * (n - 1))) ∧ va_P (dC, dI) vwCl [(m0, .inr (11, [.int 0, .ref m_tape, .int 0, .int 0, .int 0, .ref m_read, .int 0, .int 0, .int 0, .ref m_tets, .int 0, .int 0, .int 0, .int 0, .int 0, .int 0, .int 0, .int 0, .ref m_primes, .ref m_often, .ref m_normal, .ref m_termM, .ref m_termP, .ref m_termV, .ref m_sumFrom, .ref m_sumMany, .int 0, .int 0, .int 0, .int 0, .ref m_part, .ref m_fair, .ref m_heap, .ref m_pickTet, .ref m_pickEdge, .ref m_base, .ref m_baseM, .ref m_baseP, .ref m_rowsOf, .int 0, .ref m_grid, .ref m_times, .ref m_boxes, .ref m_cameFrom, .ref m_cameBy, .ref m_steps, .ref m_sides, .int w9, .int (-1), .ref m_next, .ref m_cube, .ref m_ways])), (m_next, .inl (cI, 3, (.inl fz)))] t.heap ∧ va_K (dC, dI) vwCl [(cB, .byte), (cI, .int), (cJ, .long)] t ∧ va_D (va_A [(m0, .inr (11, [.int 0, .ref m_tape, .int 0, .int 0, .int 0, .ref m_read, .int 0, .int 0, .int 0, .ref m_tets, .int 0, .int 0, .int 0, .int 0, .int 0, .int 0, .int 0, .int 0, .ref m_primes, .ref m_often, .ref m_normal, .ref m_termM, .ref m_termP, .ref m_termV, .ref m_sumFrom, .ref m_sumMany, .int 0, .int 0, .int 0, .int 0, .ref m_part, .ref m_fair, .ref m_heap, .ref m_pickTet, .ref m_pickEdge, .ref m_base, .ref m_baseM, .ref m_baseP, .ref m_rowsOf, .int 0, .ref m_grid, .ref m_times, .ref m_boxes, .ref m_cameFrom, .ref m_cameBy, .ref m_steps, .ref m_sides, .int w9, .int (-1), .ref m_next, .ref m_cube, .ref m_ways])), (m_next, .inl (cI, 3, (.inl fn)))] sz) [(m0, .inr (11, [.int 0, .ref m_tape, .int 0, .int 0, .int 0, .ref m_read, .int 0, .int 0, .int 0, .ref m_tets, .int 0, .int 0, .int 0, .int 0, .int 0, .int 0, .int 0, .int 0, .ref m_primes, .ref m_often, .ref m_normal, .ref m_termM, .ref m_termP, .ref m_termV, .ref m_sumFrom, .ref m_sumMany, .int 0, .int 0, .int 0, .int 0, .ref m_part, .ref m_fair, .ref m_heap, .ref m_pickTet, .ref m_pickEdge, .ref m_base, .ref m_baseM, .ref m_baseP, .ref m_rowsOf, .int 0, .ref m_grid, .ref m_times, .ref m_boxes, .ref m_cameFrom, .ref m_cameBy, .ref m_steps, .ref m_sides, .int w9, .int (-1), .ref m_next, .ref m_cube, .ref m_ways])), (m_next, .inl (cI, 3, (.inl fz)))]) (va_A [(m0, .inr (11, [.int 0, .ref m_tape, .int 0, .int 0, .int 0, .ref m_read, .int 0, .int 0, .int 0, .ref m_tets, .int 0, .int 0, .int 0, .int 0, .int 0, .int 0, .int 0, .int 0, .ref m_primes, .ref m_often, .ref m_normal, .ref m_termM, .ref m_termP, .ref m_termV, .ref m_sumFrom, .ref m_sumMany, .int 0, .int 0, .int 0, .int 0, .ref m_part, .ref m_fair, .ref m_heap, .ref m_pickTet, .ref m_pickEdge, .ref m_base, .ref m_baseM, .ref m_baseP, .ref m_rowsOf, .int 0, .ref m_grid, .ref m_times, .ref m_boxes, .ref m_cameFrom, .ref m_cameBy, .ref m_steps, .ref m_sides, .int w9, .int (-1), .ref m_next, .ref m_cube, .ref m_ways])), (m_next, .inl (cI, 3, (.inl fn)))] sz)) 0 0 (va_A [(m0, .inr (11, [.int 0, .ref m_tape, .int 0, .int 0, .int 0, .ref m_read, .int 0, .int 0, .int 0, .ref m_tets, .int 0, .int 0, .int 0, .int 0, .int 0, .int 0, .int 0, .int 0, .ref m_primes, .ref m_often, .ref m_normal, .ref m_termM, .ref m_termP, .ref m_termV, .ref m_sumFrom, .ref m_sumMany, .int 0, .int 0, .int 0, .int 0, .ref m_part, .ref m_fair, .ref m_heap, .ref m_pickTet, .ref m_pickEdge, .ref m_base, .ref m_baseM, .ref m_baseP, .ref m_rowsOf, .int 0, .ref m_grid, .ref m_times, .ref m_boxes, .ref m_cameFrom, .ref m_cameBy, .ref m_steps, .ref m_sides, .int w9, .int (-1), .ref m_next, .ref m_cube, .ref m_ways])), (m_next, .inl (cI, 3, (.inl fn)))] sz) := by
  refine Met.ofW (cc := cX11_goes_) (maxL := 4) (ret := (some .boolean)) (by decide) rfl ?_
  intro p e s m args below meth c s₁ B hml hv
  obtain ⟨rfl, hsz, hP, hK, hD0⟩ := hv
  have hx := B.exec
  have hb := B.bytes
  have hr := B.returns
  have hts := atoms_spec (ws := wsX11_goes_) B.pre
  have hown : s.vm.findClass RX11 = some m.cls := findClass_of_methodNamed B.named
  have hlocks := B.notSynchronized
  have hiX11 : ∀ w ∈ u_ws RX11 TX11 52, w ∈ wsX11_goes_ := by decide +kernel
  subst hsz
  have hD := hD0.self (sz := s.heap.size)
  generalize hAe : va_A [(m0, .inr (11, [.int 0, .ref m_tape, .int 0, .int 0, .int 0, .ref m_read, .int 0, .int 0, .int 0, .ref m_tets, .int 0, .int 0, .int 0, .int 0, .int 0, .int 0, .int 0, .int 0, .ref m_primes, .ref m_often, .ref m_normal, .ref m_termM, .ref m_termP, .ref m_termV, .ref m_sumFrom, .ref m_sumMany, .int 0, .int 0, .int 0, .int 0, .ref m_part, .ref m_fair, .ref m_heap, .ref m_pickTet, .ref m_pickEdge, .ref m_base, .ref m_baseM, .ref m_baseP, .ref m_rowsOf, .int 0, .ref m_grid, .ref m_times, .ref m_boxes, .ref m_cameFrom, .ref m_cameBy, .ref m_steps, .ref m_sides, .int w9, .int (-1), .ref m_next, .ref m_cube, .ref m_ways])), (m_next, .inl (cI, 3, (.inl fn)))] s.heap.size = A at hD ⊢
  have hA : ∀ q : Nat, s.heap.size ≤ q → A q := fun q h => by rw [← hAe]; exact Or.inr h
  have hS : va_S A s.heap s.heap [] := va_S.rf
  have hP : va_P (dC, dI) vwCl [(m0, .inr (11, [.int 0, .ref m_tape, .int 0, .int 0, .int 0, .ref m_read, .int 0, .int 0, .int 0, .ref m_tets, .int 0, .int 0, .int 0, .int 0, .int 0, .int 0, .int 0, .int 0, .ref m_primes, .ref m_often, .ref m_normal, .ref m_termM, .ref m_termP, .ref m_termV, .ref m_sumFrom, .ref m_sumMany, .int 0, .int 0, .int 0, .int 0, .ref m_part, .ref m_fair, .ref m_heap, .ref m_pickTet, .ref m_pickEdge, .ref m_base, .ref m_baseM, .ref m_baseP, .ref m_rowsOf, .int 0, .ref m_grid, .ref m_times, .ref m_boxes, .ref m_cameFrom, .ref m_cameBy, .ref m_steps, .ref m_sides, .int w9, .int (-1), .ref m_next, .ref m_cube, .ref m_ways])), (m_next, .inl (cI, 3, (.inl fn)))] s.heap := hP
  have hl := lv_entry ([.ref m0, .int 2, .int 0, .int (nI n)]) (n := 4) (Nat.le_of_ble_eq_true rfl)
  rw [lg_entry_eq]
  generalize (lg_sl ([.ref m0, .int 2, .int 0, .int (nI n)]) ++ List.replicate (4 - (lg_sl ([.ref m0, .int 2, .int 0, .int (nI n)])).length) Slot.unset).toArray = ls at hl ⊢
  have hl : lv_has ls 4 [(0, .ref m0), (1, .int 2), (2, .int 0), (3, .int (nI n))] := hl
  have r1 : u2 % n ≤ 24 := Nat.le_trans (Nat.mod_le _ _) (by omega)
  have r2 : u0 % (n - 1) ≤ 24 := Nat.le_trans (Nat.mod_le _ _) (by omega)
  refine lv_aload_n hx hb dX11_goes__0 rfl (lv_at hl 0 rfl) ?_
  refine va_get (D := (dC, dI)) (ci := 11) (v := .ref m_next) (C := RX11) (T := TX11) (N := 52) hx hb hts hiX11 hown hK hP 0 rfl rfl 49 (by decide) (hts (.fieldLink RX11 97 "ScissorsTableModel" "next" "[I") (by decide +kernel)) (fun _ h9 => h9) rfl dX11_goes__1 ?_
  refine lv_iload_n hx hb dX11_goes__4 rfl (lv_at hl 1 rfl) ?_
  refine va_iald hx hb hK hP 1 1 rfl rfl (by show ¬ (_ ∨ _); decide) dX11_goes__5 ?_
  refine lv_topi (fun x_1 ex_1 => ?_)
  have ex_1 : x_1 = fn 2 := ex_1
  obtain rfl : x_1 = nI u2 := ex_1.trans hs.2.2
  refine lv_iload_n hx hb dX11_goes__6 rfl (lv_at hl 3 rfl) ?_
  refine lv_irem hx hb dX11_goes__7 (nI_ne0 (by omega) (by omega)) ?_
  refine lv_topi (fun x_2 ex_2 => ?_)
  obtain rfl : x_2 = nI (u2 % n) := ex_2.trans (pk_rem (a := u2) (d := n) (by omega) (by omega) (by omega))
  refine lv_if_ne (tgt := 41) hx hb dX11_goes__8 (by decide) (fun c_3 => ?_) (fun c_3 => ?_)
  · have c_3 : ¬ (u2 % n) = 0 := fun q9 => c_3 ((nI_eq (a := u2 % n) (b := 0) (by omega) (by omega)).mpr q9)
    refine lv_iconst (v := 0) hx hb dX11_goes__41 (by decide) ?_
    have hP9 := hP.sub (ws' := [(m0, .inr (11, [.int 0, .ref m_tape, .int 0, .int 0, .int 0, .ref m_read, .int 0, .int 0, .int 0, .ref m_tets, .int 0, .int 0, .int 0, .int 0, .int 0, .int 0, .int 0, .int 0, .ref m_primes, .ref m_often, .ref m_normal, .ref m_termM, .ref m_termP, .ref m_termV, .ref m_sumFrom, .ref m_sumMany, .int 0, .int 0, .int 0, .int 0, .ref m_part, .ref m_fair, .ref m_heap, .ref m_pickTet, .ref m_pickEdge, .ref m_base, .ref m_baseM, .ref m_baseP, .ref m_rowsOf, .int 0, .ref m_grid, .ref m_times, .ref m_boxes, .ref m_cameFrom, .ref m_cameBy, .ref m_steps, .ref m_sides, .int w9, .int (-1), .ref m_next, .ref m_cube, .ref m_ways])), (m_next, .inl (cI, 3, (.inl fn)))]) [0, 1] rfl
    have hD9 := hD.sub (ws' := [(m0, .inr (11, [.int 0, .ref m_tape, .int 0, .int 0, .int 0, .ref m_read, .int 0, .int 0, .int 0, .ref m_tets, .int 0, .int 0, .int 0, .int 0, .int 0, .int 0, .int 0, .int 0, .ref m_primes, .ref m_often, .ref m_normal, .ref m_termM, .ref m_termP, .ref m_termV, .ref m_sumFrom, .ref m_sumMany, .int 0, .int 0, .int 0, .int 0, .ref m_part, .ref m_fair, .ref m_heap, .ref m_pickTet, .ref m_pickEdge, .ref m_base, .ref m_baseM, .ref m_baseP, .ref m_rowsOf, .int 0, .ref m_grid, .ref m_times, .ref m_boxes, .ref m_cameFrom, .ref m_cameBy, .ref m_steps, .ref m_sides, .int w9, .int (-1), .ref m_next, .ref m_cube, .ref m_ways])), (m_next, .inl (cI, 3, (.inl fn)))]) [0, 1] (by decide) rfl
    refine W.widen (k := 0) (n := 0) (Nat.le_of_ble_eq_true rfl) (Nat.le_of_ble_eq_true rfl) ?_
    exact W.zret (v := 0) hx hb hr (by decide) (fun t ht hW => ⟨⟨0, (), rfl, (Or.inl ⟨rfl, (fun h9 => c_3 h9.1)⟩), fn, (fun h9 => absurd h9 (fun h9 => c_3 h9.1)), by rw [ht]; exact hP9, va_K.moved hW.alike hK, hD9⟩, hS.F ht⟩) hS.2.2 dX11_goes__42
  · have c_3 : (u2 % n) = 0 := (nI_eq (a := u2 % n) (b := 0) (by omega) (by omega)).mp c_3
    refine lv_aload_n hx hb dX11_goes__11 rfl (lv_at hl 0 rfl) ?_
    refine va_get (D := (dC, dI)) (ci := 11) (v := .ref m_next) (C := RX11) (T := TX11) (N := 52) hx hb hts hiX11 hown hK hP 0 rfl rfl 49 (by decide) (hts (.fieldLink RX11 97 "ScissorsTableModel" "next" "[I") (by decide +kernel)) (fun _ h9 => h9) rfl dX11_goes__12 ?_
    refine lv_iload_n hx hb dX11_goes__15 rfl (lv_at hl 2 rfl) ?_
    refine va_iald hx hb hK hP 1 1 rfl rfl (by show ¬ (_ ∨ _); decide) dX11_goes__16 ?_
    refine lv_topi (fun x_4 ex_4 => ?_)
    have ex_4 : x_4 = fn 0 := ex_4
    obtain rfl : x_4 = nI u0 := ex_4.trans hs.1
    refine lv_iload_n hx hb dX11_goes__17 rfl (lv_at hl 3 rfl) ?_
    refine lv_iconst (v := 1) hx hb dX11_goes__18 (by decide) ?_
    refine lv_isub hx hb dX11_goes__19 ?_
    refine lv_topi (fun x_5 ex_5 => ?_)
    obtain rfl : x_5 = nI (n - 1) := ex_5.trans (pk_sub (a := n) (b := 1) (by omega))
    refine lv_irem hx hb dX11_goes__20 (nI_ne0 (by omega) (by omega)) ?_
    refine lv_topi (fun x_6 ex_6 => ?_)
    obtain rfl : x_6 = nI (u0 % (n - 1)) := ex_6.trans (pk_rem (a := u0) (d := n - 1) (by omega) (by omega) (by omega))
    refine lv_if_ne (tgt := 41) hx hb dX11_goes__21 (by decide) (fun c_7 => ?_) (fun c_7 => ?_)
    · have c_7 : ¬ (u0 % (n - 1)) = 0 := fun q9 => c_7 ((nI_eq (a := u0 % (n - 1)) (b := 0) (by omega) (by omega)).mpr q9)
      refine lv_iconst (v := 0) hx hb dX11_goes__41 (by decide) ?_
      have hP9 := hP.sub (ws' := [(m0, .inr (11, [.int 0, .ref m_tape, .int 0, .int 0, .int 0, .ref m_read, .int 0, .int 0, .int 0, .ref m_tets, .int 0, .int 0, .int 0, .int 0, .int 0, .int 0, .int 0, .int 0, .ref m_primes, .ref m_often, .ref m_normal, .ref m_termM, .ref m_termP, .ref m_termV, .ref m_sumFrom, .ref m_sumMany, .int 0, .int 0, .int 0, .int 0, .ref m_part, .ref m_fair, .ref m_heap, .ref m_pickTet, .ref m_pickEdge, .ref m_base, .ref m_baseM, .ref m_baseP, .ref m_rowsOf, .int 0, .ref m_grid, .ref m_times, .ref m_boxes, .ref m_cameFrom, .ref m_cameBy, .ref m_steps, .ref m_sides, .int w9, .int (-1), .ref m_next, .ref m_cube, .ref m_ways])), (m_next, .inl (cI, 3, (.inl fn)))]) [0, 1] rfl
      have hD9 := hD.sub (ws' := [(m0, .inr (11, [.int 0, .ref m_tape, .int 0, .int 0, .int 0, .ref m_read, .int 0, .int 0, .int 0, .ref m_tets, .int 0, .int 0, .int 0, .int 0, .int 0, .int 0, .int 0, .int 0, .ref m_primes, .ref m_often, .ref m_normal, .ref m_termM, .ref m_termP, .ref m_termV, .ref m_sumFrom, .ref m_sumMany, .int 0, .int 0, .int 0, .int 0, .ref m_part, .ref m_fair, .ref m_heap, .ref m_pickTet, .ref m_pickEdge, .ref m_base, .ref m_baseM, .ref m_baseP, .ref m_rowsOf, .int 0, .ref m_grid, .ref m_times, .ref m_boxes, .ref m_cameFrom, .ref m_cameBy, .ref m_steps, .ref m_sides, .int w9, .int (-1), .ref m_next, .ref m_cube, .ref m_ways])), (m_next, .inl (cI, 3, (.inl fn)))]) [0, 1] (by decide) rfl
      refine W.widen (k := 0) (n := 0) (Nat.le_of_ble_eq_true rfl) (Nat.le_of_ble_eq_true rfl) ?_
      exact W.zret (v := 0) hx hb hr (by decide) (fun t ht hW => ⟨⟨0, (), rfl, (Or.inl ⟨rfl, (fun h9 => c_7 h9.2.1)⟩), fn, (fun h9 => absurd h9 (fun h9 => c_7 h9.2.1)), by rw [ht]; exact hP9, va_K.moved hW.alike hK, hD9⟩, hS.F ht⟩) hS.2.2 dX11_goes__42
    · have c_7 : (u0 % (n - 1)) = 0 := (nI_eq (a := u0 % (n - 1)) (b := 0) (by omega) (by omega)).mp c_7
      have hdl : u0 / (n - 1) * n ≤ 24 * 24 := Nat.mul_le_mul (Nat.le_trans (Nat.div_le_self _ _) (by omega)) hn.2
      refine lv_aload_n hx hb dX11_goes__24 rfl (lv_at hl 0 rfl) ?_
      refine va_get (D := (dC, dI)) (ci := 11) (v := .ref m_next) (C := RX11) (T := TX11) (N := 52) hx hb hts hiX11 hown hK hP 0 rfl rfl 49 (by decide) (hts (.fieldLink RX11 97 "ScissorsTableModel" "next" "[I") (by decide +kernel)) (fun _ h9 => h9) rfl dX11_goes__25 ?_
      refine lv_iload_n hx hb dX11_goes__28 rfl (lv_at hl 2 rfl) ?_
      refine va_iald hx hb hK hP 1 1 rfl rfl (by show ¬ (_ ∨ _); decide) dX11_goes__29 ?_
      refine lv_topi (fun x_8 ex_8 => ?_)
      have ex_8 : x_8 = fn 0 := ex_8
      obtain rfl : x_8 = nI u0 := ex_8.trans hs.1
      refine lv_iload_n hx hb dX11_goes__30 rfl (lv_at hl 3 rfl) ?_
      refine lv_iconst (v := 1) hx hb dX11_goes__31 (by decide) ?_
      refine lv_isub hx hb dX11_goes__32 ?_
      refine lv_topi (fun x_9 ex_9 => ?_)
      obtain rfl : x_9 = nI (n - 1) := ex_9.trans (pk_sub (a := n) (b := 1) (by omega))
      refine lv_idiv hx hb dX11_goes__33 (nI_ne0 (by omega) (by omega)) ?_
      refine lv_topi (fun x_10 ex_10 => ?_)
      obtain rfl : x_10 = nI (u0 / (n - 1)) := ex_10.trans (pk_div (a := u0) (d := n - 1) (by omega) (by omega) (by omega))
      refine lv_iload_n hx hb dX11_goes__34 rfl (lv_at hl 3 rfl) ?_
      refine lv_imul hx hb dX11_goes__35 ?_
      refine lv_topi (fun x_11 ex_11 => ?_)
      obtain rfl : x_11 = nI ((u0 / (n - 1)) * n) := ex_11.trans (pk_mul (u0 / (n - 1)) n)
      refine lv_bipush (v := 24) hx hb dX11_goes__36 (by decide) ?_
      refine lv_icmp_le (tgt := 43) hx hb dX11_goes__38 (by decide) (fun c_12 => ?_) (fun c_12 => ?_)
      · have c_12 : ((u0 / (n - 1)) * n) ≤ 24 := (nI_leI (a := (u0 / (n - 1)) * n) (b := 24) (by omega) (by omega)).mp c_12
        refine lv_aload_n hx hb dX11_goes__43 rfl (lv_at hl 0 rfl) ?_
        refine va_get (D := (dC, dI)) (ci := 11) (v := .ref m_next) (C := RX11) (T := TX11) (N := 52) hx hb hts hiX11 hown hK hP 0 rfl rfl 49 (by decide) (hts (.fieldLink RX11 97 "ScissorsTableModel" "next" "[I") (by decide +kernel)) (fun _ h9 => h9) rfl dX11_goes__44 ?_
        refine lv_iload_n hx hb dX11_goes__47 rfl (lv_at hl 1 rfl) ?_
        refine lv_aload_n hx hb dX11_goes__48 rfl (lv_at hl 0 rfl) ?_
        refine va_get (D := (dC, dI)) (ci := 11) (v := .ref m_next) (C := RX11) (T := TX11) (N := 52) hx hb hts hiX11 hown hK hP 0 rfl rfl 49 (by decide) (hts (.fieldLink RX11 97 "ScissorsTableModel" "next" "[I") (by decide +kernel)) (fun _ h9 => h9) rfl dX11_goes__49 ?_
        refine lv_iload_n hx hb dX11_goes__52 rfl (lv_at hl 1 rfl) ?_
        refine va_iald hx hb hK hP 1 1 rfl rfl (by show ¬ (_ ∨ _); decide) dX11_goes__53 ?_
        refine lv_topi (fun x_13 ex_13 => ?_)
        have ex_13 : x_13 = fn 2 := ex_13
        obtain rfl : x_13 = nI u2 := ex_13.trans hs.2.2
        refine lv_iload_n hx hb dX11_goes__54 rfl (lv_at hl 3 rfl) ?_
        refine lv_idiv hx hb dX11_goes__55 (nI_ne0 (by omega) (by omega)) ?_
        refine lv_topi (fun x_14 ex_14 => ?_)
        obtain rfl : x_14 = nI (u2 / n) := ex_14.trans (pk_div (a := u2) (d := n) (by omega) (by omega) (by omega))
        refine lv_iload_n hx hb dX11_goes__56 rfl (lv_at hl 3 rfl) ?_
        refine lv_iconst (v := 1) hx hb dX11_goes__57 (by decide) ?_
        refine lv_isub hx hb dX11_goes__58 ?_
        refine lv_topi (fun x_15 ex_15 => ?_)
        obtain rfl : x_15 = nI (n - 1) := ex_15.trans (pk_sub (a := n) (b := 1) (by omega))
        refine lv_imul hx hb dX11_goes__59 ?_
        refine lv_topi (fun x_16 ex_16 => ?_)
        obtain rfl : x_16 = nI ((u2 / n) * (n - 1)) := ex_16.trans (pk_mul (u2 / n) (n - 1))
        refine va_iast hx hb hK hP hD hS 1 1 rfl rfl (by show ¬ (_ ∨ _); decide) dX11_goes__60 (fun H locs hP hD hS => ?_)
        rw [show (2 : Int32).toNatClampNeg = 2 from rfl] at hP hD
        have hP : va_P (dC, dI) vwCl [(m0, .inr (11, [.int 0, .ref m_tape, .int 0, .int 0, .int 0, .ref m_read, .int 0, .int 0, .int 0, .ref m_tets, .int 0, .int 0, .int 0, .int 0, .int 0, .int 0, .int 0, .int 0, .ref m_primes, .ref m_often, .ref m_normal, .ref m_termM, .ref m_termP, .ref m_termV, .ref m_sumFrom, .ref m_sumMany, .int 0, .int 0, .int 0, .int 0, .ref m_part, .ref m_fair, .ref m_heap, .ref m_pickTet, .ref m_pickEdge, .ref m_base, .ref m_baseM, .ref m_baseP, .ref m_rowsOf, .int 0, .ref m_grid, .ref m_times, .ref m_boxes, .ref m_cameFrom, .ref m_cameBy, .ref m_steps, .ref m_sides, .int w9, .int (-1), .ref m_next, .ref m_cube, .ref m_ways])), (m_next, .inl (cI, 3, (.inl (upd fn 2 (nI ((u2 / n) * (n - 1)))))))] H := hP
        have hD : va_D A [(m0, .inr (11, [.int 0, .ref m_tape, .int 0, .int 0, .int 0, .ref m_read, .int 0, .int 0, .int 0, .ref m_tets, .int 0, .int 0, .int 0, .int 0, .int 0, .int 0, .int 0, .int 0, .ref m_primes, .ref m_often, .ref m_normal, .ref m_termM, .ref m_termP, .ref m_termV, .ref m_sumFrom, .ref m_sumMany, .int 0, .int 0, .int 0, .int 0, .ref m_part, .ref m_fair, .ref m_heap, .ref m_pickTet, .ref m_pickEdge, .ref m_base, .ref m_baseM, .ref m_baseP, .ref m_rowsOf, .int 0, .ref m_grid, .ref m_times, .ref m_boxes, .ref m_cameFrom, .ref m_cameBy, .ref m_steps, .ref m_sides, .int w9, .int (-1), .ref m_next, .ref m_cube, .ref m_ways])), (m_next, .inl (cI, 3, (.inl (upd fn 2 (nI ((u2 / n) * (n - 1)))))))] := hD
        refine lv_aload_n hx hb dX11_goes__61 rfl (lv_at hl 0 rfl) ?_
        refine va_get (D := (dC, dI)) (ci := 11) (v := .ref m_next) (C := RX11) (T := TX11) (N := 52) hx hb hts hiX11 hown hK hP 0 rfl rfl 49 (by decide) (hts (.fieldLink RX11 97 "ScissorsTableModel" "next" "[I") (by decide +kernel)) (fun _ h9 => h9) rfl dX11_goes__62 ?_
        refine lv_iload_n hx hb dX11_goes__65 rfl (lv_at hl 2 rfl) ?_
        refine lv_aload_n hx hb dX11_goes__66 rfl (lv_at hl 0 rfl) ?_
        refine va_get (D := (dC, dI)) (ci := 11) (v := .ref m_next) (C := RX11) (T := TX11) (N := 52) hx hb hts hiX11 hown hK hP 0 rfl rfl 49 (by decide) (hts (.fieldLink RX11 97 "ScissorsTableModel" "next" "[I") (by decide +kernel)) (fun _ h9 => h9) rfl dX11_goes__67 ?_
        refine lv_iload_n hx hb dX11_goes__70 rfl (lv_at hl 2 rfl) ?_
        refine va_iald hx hb hK hP 1 1 rfl rfl (by show ¬ (_ ∨ _); decide) dX11_goes__71 ?_
        refine lv_topi (fun x_17 ex_17 => ?_)
        have ex_17 : x_17 = (upd fn 2 (nI ((u2 / n) * (n - 1)))) 0 := ex_17
        obtain rfl : x_17 = nI u0 := ex_17.trans ((pk_un (by decide)).trans hs.1)
        refine lv_iload_n hx hb dX11_goes__72 rfl (lv_at hl 3 rfl) ?_
        refine lv_iconst (v := 1) hx hb dX11_goes__73 (by decide) ?_
        refine lv_isub hx hb dX11_goes__74 ?_
        refine lv_topi (fun x_18 ex_18 => ?_)
        obtain rfl : x_18 = nI (n - 1) := ex_18.trans (pk_sub (a := n) (b := 1) (by omega))
        refine lv_idiv hx hb dX11_goes__75 (nI_ne0 (by omega) (by omega)) ?_
        refine lv_topi (fun x_19 ex_19 => ?_)
        obtain rfl : x_19 = nI (u0 / (n - 1)) := ex_19.trans (pk_div (a := u0) (d := n - 1) (by omega) (by omega) (by omega))
        refine lv_iload_n hx hb dX11_goes__76 rfl (lv_at hl 3 rfl) ?_
        refine lv_imul hx hb dX11_goes__77 ?_
        refine lv_topi (fun x_20 ex_20 => ?_)
        obtain rfl : x_20 = nI ((u0 / (n - 1)) * n) := ex_20.trans (pk_mul (u0 / (n - 1)) n)
        refine va_iast hx hb hK hP hD hS 1 1 rfl rfl (by show ¬ (_ ∨ _); decide) dX11_goes__78 (fun H locs hP hD hS => ?_)
        rw [show (0 : Int32).toNatClampNeg = 0 from rfl] at hP hD
        have hP : va_P (dC, dI) vwCl [(m0, .inr (11, [.int 0, .ref m_tape, .int 0, .int 0, .int 0, .ref m_read, .int 0, .int 0, .int 0, .ref m_tets, .int 0, .int 0, .int 0, .int 0, .int 0, .int 0, .int 0, .int 0, .ref m_primes, .ref m_often, .ref m_normal, .ref m_termM, .ref m_termP, .ref m_termV, .ref m_sumFrom, .ref m_sumMany, .int 0, .int 0, .int 0, .int 0, .ref m_part, .ref m_fair, .ref m_heap, .ref m_pickTet, .ref m_pickEdge, .ref m_base, .ref m_baseM, .ref m_baseP, .ref m_rowsOf, .int 0, .ref m_grid, .ref m_times, .ref m_boxes, .ref m_cameFrom, .ref m_cameBy, .ref m_steps, .ref m_sides, .int w9, .int (-1), .ref m_next, .ref m_cube, .ref m_ways])), (m_next, .inl (cI, 3, (.inl (upd (upd fn 2 (nI ((u2 / n) * (n - 1)))) 0 (nI ((u0 / (n - 1)) * n))))))] H := hP
        have hD : va_D A [(m0, .inr (11, [.int 0, .ref m_tape, .int 0, .int 0, .int 0, .ref m_read, .int 0, .int 0, .int 0, .ref m_tets, .int 0, .int 0, .int 0, .int 0, .int 0, .int 0, .int 0, .int 0, .ref m_primes, .ref m_often, .ref m_normal, .ref m_termM, .ref m_termP, .ref m_termV, .ref m_sumFrom, .ref m_sumMany, .int 0, .int 0, .int 0, .int 0, .ref m_part, .ref m_fair, .ref m_heap, .ref m_pickTet, .ref m_pickEdge, .ref m_base, .ref m_baseM, .ref m_baseP, .ref m_rowsOf, .int 0, .ref m_grid, .ref m_times, .ref m_boxes, .ref m_cameFrom, .ref m_cameBy, .ref m_steps, .ref m_sides, .int w9, .int (-1), .ref m_next, .ref m_cube, .ref m_ways])), (m_next, .inl (cI, 3, (.inl (upd (upd fn 2 (nI ((u2 / n) * (n - 1)))) 0 (nI ((u0 / (n - 1)) * n))))))] := hD
        refine lv_iconst (v := 1) hx hb dX11_goes__79 (by decide) ?_
        have hP9 := hP.sub (ws' := [(m0, .inr (11, [.int 0, .ref m_tape, .int 0, .int 0, .int 0, .ref m_read, .int 0, .int 0, .int 0, .ref m_tets, .int 0, .int 0, .int 0, .int 0, .int 0, .int 0, .int 0, .int 0, .ref m_primes, .ref m_often, .ref m_normal, .ref m_termM, .ref m_termP, .ref m_termV, .ref m_sumFrom, .ref m_sumMany, .int 0, .int 0, .int 0, .int 0, .ref m_part, .ref m_fair, .ref m_heap, .ref m_pickTet, .ref m_pickEdge, .ref m_base, .ref m_baseM, .ref m_baseP, .ref m_rowsOf, .int 0, .ref m_grid, .ref m_times, .ref m_boxes, .ref m_cameFrom, .ref m_cameBy, .ref m_steps, .ref m_sides, .int w9, .int (-1), .ref m_next, .ref m_cube, .ref m_ways])), (m_next, .inl (cI, 3, (.inl (upd (upd fn 2 (nI ((u2 / n) * (n - 1)))) 0 (nI ((u0 / (n - 1)) * n))))))]) [0, 1] rfl
        have hD9 := hD.sub (ws' := [(m0, .inr (11, [.int 0, .ref m_tape, .int 0, .int 0, .int 0, .ref m_read, .int 0, .int 0, .int 0, .ref m_tets, .int 0, .int 0, .int 0, .int 0, .int 0, .int 0, .int 0, .int 0, .ref m_primes, .ref m_often, .ref m_normal, .ref m_termM, .ref m_termP, .ref m_termV, .ref m_sumFrom, .ref m_sumMany, .int 0, .int 0, .int 0, .int 0, .ref m_part, .ref m_fair, .ref m_heap, .ref m_pickTet, .ref m_pickEdge, .ref m_base, .ref m_baseM, .ref m_baseP, .ref m_rowsOf, .int 0, .ref m_grid, .ref m_times, .ref m_boxes, .ref m_cameFrom, .ref m_cameBy, .ref m_steps, .ref m_sides, .int w9, .int (-1), .ref m_next, .ref m_cube, .ref m_ways])), (m_next, .inl (cI, 3, (.inl (upd (upd fn 2 (nI ((u2 / n) * (n - 1)))) 0 (nI ((u0 / (n - 1)) * n))))))]) [0, 1] (by decide) rfl
        refine W.widen (k := 0) (n := 0) (Nat.le_of_ble_eq_true rfl) (Nat.le_of_ble_eq_true rfl) ?_
        exact W.zret (v := 1) hx hb hr (by decide) (fun t ht hW => ⟨⟨1, (), rfl, (Or.inr ⟨rfl, ⟨c_3, c_7, c_12⟩⟩), (upd (upd fn 2 (nI ((u2 / n) * (n - 1)))) 0 (nI ((u0 / (n - 1)) * n))), (fun _ => ⟨pk_us, (pk_un (by decide)).trans ((pk_un (by decide)).trans hs.2.1), (pk_un (by decide)).trans pk_us⟩), by rw [ht]; exact hP9, va_K.moved hW.alike hK, hD9⟩, hS.F ht⟩) hS.2.2 dX11_goes__80
      · have c_12 : ¬ ((u0 / (n - 1)) * n) ≤ 24 := fun q9 => c_12 ((nI_leI (a := (u0 / (n - 1)) * n) (b := 24) (by omega) (by omega)).mpr q9)
        refine lv_iconst (v := 0) hx hb dX11_goes__41 (by decide) ?_
        have hP9 := hP.sub (ws' := [(m0, .inr (11, [.int 0, .ref m_tape, .int 0, .int 0, .int 0, .ref m_read, .int 0, .int 0, .int 0, .ref m_tets, .int 0, .int 0, .int 0, .int 0, .int 0, .int 0, .int 0, .int 0, .ref m_primes, .ref m_often, .ref m_normal, .ref m_termM, .ref m_termP, .ref m_termV, .ref m_sumFrom, .ref m_sumMany, .int 0, .int 0, .int 0, .int 0, .ref m_part, .ref m_fair, .ref m_heap, .ref m_pickTet, .ref m_pickEdge, .ref m_base, .ref m_baseM, .ref m_baseP, .ref m_rowsOf, .int 0, .ref m_grid, .ref m_times, .ref m_boxes, .ref m_cameFrom, .ref m_cameBy, .ref m_steps, .ref m_sides, .int w9, .int (-1), .ref m_next, .ref m_cube, .ref m_ways])), (m_next, .inl (cI, 3, (.inl fn)))]) [0, 1] rfl
        have hD9 := hD.sub (ws' := [(m0, .inr (11, [.int 0, .ref m_tape, .int 0, .int 0, .int 0, .ref m_read, .int 0, .int 0, .int 0, .ref m_tets, .int 0, .int 0, .int 0, .int 0, .int 0, .int 0, .int 0, .int 0, .ref m_primes, .ref m_often, .ref m_normal, .ref m_termM, .ref m_termP, .ref m_termV, .ref m_sumFrom, .ref m_sumMany, .int 0, .int 0, .int 0, .int 0, .ref m_part, .ref m_fair, .ref m_heap, .ref m_pickTet, .ref m_pickEdge, .ref m_base, .ref m_baseM, .ref m_baseP, .ref m_rowsOf, .int 0, .ref m_grid, .ref m_times, .ref m_boxes, .ref m_cameFrom, .ref m_cameBy, .ref m_steps, .ref m_sides, .int w9, .int (-1), .ref m_next, .ref m_cube, .ref m_ways])), (m_next, .inl (cI, 3, (.inl fn)))]) [0, 1] (by decide) rfl
        refine W.widen (k := 0) (n := 0) (Nat.le_of_ble_eq_true rfl) (Nat.le_of_ble_eq_true rfl) ?_
        exact W.zret (v := 0) hx hb hr (by decide) (fun t ht hW => ⟨⟨0, (), rfl, (Or.inl ⟨rfl, (fun h9 => c_12 h9.2.2)⟩), fn, (fun h9 => absurd h9 (fun h9 => c_12 h9.2.2)), by rw [ht]; exact hP9, va_K.moved hW.alike hK, hD9⟩, hS.F ht⟩) hS.2.2 dX11_goes__42
set_option maxHeartbeats 4000000 in
set_option maxRecDepth 100000 in
theorem c_X11_goes__21 (l : Launch) (dC : Nat → ClassId) (dI : Nat → Nat → Nat) (cB cI cJ : ClassId) (sz : Nat) (m0 m_tape m_read m_tets m_primes m_often m_normal m_termM m_termP m_termV m_sumFrom m_sumMany m_part m_fair m_heap m_pickTet m_pickEdge m_base m_baseM m_baseP m_rowsOf m_grid m_times m_boxes m_cameFrom m_cameBy m_steps m_sides m_next m_cube m_ways : Nat) (w9 : Int32) (fn : Nat → Int32) (u0 u1 u2 n : Nat) (hu : (1 ≤ u0 ∧ u0 ≤ 24) ∧ (1 ≤ u1 ∧ u1 ≤ 24) ∧ (1 ≤ u2 ∧ u2 ≤ 24)) (hn : 2 ≤ n ∧ n ≤ 24) (hs : fn 0 = nI u0 ∧ fn 1 = nI u1 ∧ fn 2 = nI u2) : Met l yX11_goes_ wsX11_goes_ ({ frames := 1, cells := 0, slots := 0, locals := 24 }) (va_Pc [.ref m0, .int 2, .int 1, .int (nI n)] (fun U => U.heap.size = sz ∧ va_P (dC, dI) vwCl [(m0, .inr (11, [.int 0, .ref m_tape, .int 0, .int 0, .int 0, .ref m_read, .int 0, .int 0, .int 0, .ref m_tets, .int 0, .int 0, .int 0, .int 0, .int 0, .int 0, .int 0, .int 0, .ref m_primes, .ref m_often, .ref m_normal, .ref m_termM, .ref m_termP, .ref m_termV, .ref m_sumFrom, .ref m_sumMany, .int 0, .int 0, .int 0, .int 0, .ref m_part, .ref m_fair, .ref m_heap, .ref m_pickTet, .ref m_pickEdge, .ref m_base, .ref m_baseM, .ref m_baseP, .ref m_rowsOf, .int 0, .ref m_grid, .ref m_times, .ref m_boxes, .ref m_cameFrom, .ref m_cameBy, .ref m_steps, .ref m_sides, .int w9, .int (-1), .ref m_next, .ref m_cube, .ref m_ways])), (m_next, .inl (cI, 3, (.inl fn)))] U.heap ∧ va_K (dC, dI) vwCl [(cB, .byte), (cI, .int), (cJ, .long)] U ∧ va_D (fun _ => True) [(m0, .inr (11, [.int 0, .ref m_tape, .int 0, .int 0, .int 0, .ref m_read, .int 0, .int 0, .int 0, .ref m_tets, .int 0, .int 0, .int 0, .int 0, .int 0, .int 0, .int 0, .int 0, .ref m_primes, .ref m_often, .ref m_normal, .ref m_termM, .ref m_termP, .ref m_termV, .ref m_sumFrom, .ref m_sumMany, .int 0, .int 0, .int 0, .int 0, .ref m_part, .ref m_fair, .ref m_heap, .ref m_pickTet, .ref m_pickEdge, .ref m_base, .ref m_baseM, .ref m_baseP, .ref m_rowsOf, .int 0, .ref m_grid, .ref m_times, .ref m_boxes, .ref m_cameFrom, .ref m_cameBy, .ref m_steps, .ref m_sides, .int w9, .int (-1), .ref m_next, .ref m_cube, .ref m_ways])), (m_next, .inl (cI, 3, (.inl fn)))])) (va_Qi (fun (r : Int32) (_ : Unit) => (r = 0 ∧ ¬ (sd u0 u1 u2 2 % n = 0 ∧ sd u0 u1 u2 1 % (n - 1) = 0 ∧ sd u0 u1 u2 1 / (n - 1) * n ≤ 24)) ∨ (r = 1 ∧ (sd u0 u1 u2 2 % n = 0 ∧ sd u0 u1 u2 1 % (n - 1) = 0 ∧ sd u0 u1 u2 1 / (n - 1) * n ≤ 24))) (fun _ t => ∃ fz : Nat → Int32, ((sd u0 u1 u2 2 % n = 0 ∧ sd u0 u1 u2 1 % (n - 1) = 0 ∧ sd u0 u1 u2 1 / (n - 1) * n ≤ 24) → fz 0 = nI (u0) ∧ fz 1 = nI (u1 / (n - 1) * n) ∧ fz 2 = nI (u2 / n * (n - 1))) ∧ va_P (dC, dI) vwCl [(m0, .inr (11, [.int 0, .ref m_tape, .int 0, .int 0, .int 0, .ref m_read, .int 0, .int 0, .int 0, .ref m_tets, .int 0, .int 0, .int 0, .int 0, .int 0, .int 0, .int 0, .int 0, .ref m_primes, .ref m_often, .ref m_normal, .ref m_termM, .ref m_termP, .ref m_termV, .ref m_sumFrom, .ref m_sumMany, .int 0, .int 0, .int 0, .int 0, .ref m_part, .ref m_fair, .ref m_heap, .ref m_pickTet, .ref m_pickEdge, .ref m_base, .ref m_baseM, .ref m_baseP, .ref m_rowsOf, .int 0, .ref m_grid, .ref m_times, .ref m_boxes, .ref m_cameFrom, .ref m_cameBy, .ref m_steps, .ref m_sides, .int w9, .int (-1), .ref m_next, .ref m_cube, .ref m_ways])), (m_next, .inl (cI, 3, (.inl fz)))] t.heap ∧ va_K (dC, dI) vwCl [(cB, .byte), (cI, .int), (cJ, .long)] t ∧ va_D (va_A [(m0, .inr (11, [.int 0, .ref m_tape, .int 0, .int 0, .int 0, .ref m_read, .int 0, .int 0, .int 0, .ref m_tets, .int 0, .int 0, .int 0, .int 0, .int 0, .int 0, .int 0, .int 0, .ref m_primes, .ref m_often, .ref m_normal, .ref m_termM, .ref m_termP, .ref m_termV, .ref m_sumFrom, .ref m_sumMany, .int 0, .int 0, .int 0, .int 0, .ref m_part, .ref m_fair, .ref m_heap, .ref m_pickTet, .ref m_pickEdge, .ref m_base, .ref m_baseM, .ref m_baseP, .ref m_rowsOf, .int 0, .ref m_grid, .ref m_times, .ref m_boxes, .ref m_cameFrom, .ref m_cameBy, .ref m_steps, .ref m_sides, .int w9, .int (-1), .ref m_next, .ref m_cube, .ref m_ways])), (m_next, .inl (cI, 3, (.inl fn)))] sz) [(m0, .inr (11, [.int 0, .ref m_tape, .int 0, .int 0, .int 0, .ref m_read, .int 0, .int 0, .int 0, .ref m_tets, .int 0, .int 0, .int 0, .int 0, .int 0, .int 0, .int 0, .int 0, .ref m_primes, .ref m_often, .ref m_normal, .ref m_termM, .ref m_termP, .ref m_termV, .ref m_sumFrom, .ref m_sumMany, .int 0, .int 0, .int 0, .int 0, .ref m_part, .ref m_fair, .ref m_heap, .ref m_pickTet, .ref m_pickEdge, .ref m_base, .ref m_baseM, .ref m_baseP, .ref m_rowsOf, .int 0, .ref m_grid, .ref m_times, .ref m_boxes, .ref m_cameFrom, .ref m_cameBy, .ref m_steps, .ref m_sides, .int w9, .int (-1), .ref m_next, .ref m_cube, .ref m_ways])), (m_next, .inl (cI, 3, (.inl fz)))]) (va_A [(m0, .inr (11, [.int 0, .ref m_tape, .int 0, .int 0, .int 0, .ref m_read, .int 0, .int 0, .int 0, .ref m_tets, .int 0, .int 0, .int 0, .int 0, .int 0, .int 0, .int 0, .int 0, .ref m_primes, .ref m_often, .ref m_normal, .ref m_termM, .ref m_termP, .ref m_termV, .ref m_sumFrom, .ref m_sumMany, .int 0, .int 0, .int 0, .int 0, .ref m_part, .ref m_fair, .ref m_heap, .ref m_pickTet, .ref m_pickEdge, .ref m_base, .ref m_baseM, .ref m_baseP, .ref m_rowsOf, .int 0, .ref m_grid, .ref m_times, .ref m_boxes, .ref m_cameFrom, .ref m_cameBy, .ref m_steps, .ref m_sides, .int w9, .int (-1), .ref m_next, .ref m_cube, .ref m_ways])), (m_next, .inl (cI, 3, (.inl fn)))] sz)) 0 0 (va_A [(m0, .inr (11, [.int 0, .ref m_tape, .int 0, .int 0, .int 0, .ref m_read, .int 0, .int 0, .int 0, .ref m_tets, .int 0, .int 0, .int 0, .int 0, .int 0, .int 0, .int 0, .int 0, .ref m_primes, .ref m_often, .ref m_normal, .ref m_termM, .ref m_termP, .ref m_termV, .ref m_sumFrom, .ref m_sumMany, .int 0, .int 0, .int 0, .int 0, .ref m_part, .ref m_fair, .ref m_heap, .ref m_pickTet, .ref m_pickEdge, .ref m_base, .ref m_baseM, .ref m_baseP, .ref m_rowsOf, .int 0, .ref m_grid, .ref m_times, .ref m_boxes, .ref m_cameFrom, .ref m_cameBy, .ref m_steps, .ref m_sides, .int w9, .int (-1), .ref m_next, .ref m_cube, .ref m_ways])), (m_next, .inl (cI, 3, (.inl fn)))] sz) := by
  refine Met.ofW (cc := cX11_goes_) (maxL := 4) (ret := (some .boolean)) (by decide) rfl ?_
  intro p e s m args below meth c s₁ B hml hv
  obtain ⟨rfl, hsz, hP, hK, hD0⟩ := hv
  have hx := B.exec
  have hb := B.bytes
  have hr := B.returns
  have hts := atoms_spec (ws := wsX11_goes_) B.pre
  have hown : s.vm.findClass RX11 = some m.cls := findClass_of_methodNamed B.named
  have hlocks := B.notSynchronized
  have hiX11 : ∀ w ∈ u_ws RX11 TX11 52, w ∈ wsX11_goes_ := by decide +kernel
  subst hsz
  have hD := hD0.self (sz := s.heap.size)
  generalize hAe : va_A [(m0, .inr (11, [.int 0, .ref m_tape, .int 0, .int 0, .int 0, .ref m_read, .int 0, .int 0, .int 0, .ref m_tets, .int 0, .int 0, .int 0, .int 0, .int 0, .int 0, .int 0, .int 0, .ref m_primes, .ref m_often, .ref m_normal, .ref m_termM, .ref m_termP, .ref m_termV, .ref m_sumFrom, .ref m_sumMany, .int 0, .int 0, .int 0, .int 0, .ref m_part, .ref m_fair, .ref m_heap, .ref m_pickTet, .ref m_pickEdge, .ref m_base, .ref m_baseM, .ref m_baseP, .ref m_rowsOf, .int 0, .ref m_grid, .ref m_times, .ref m_boxes, .ref m_cameFrom, .ref m_cameBy, .ref m_steps, .ref m_sides, .int w9, .int (-1), .ref m_next, .ref m_cube, .ref m_ways])), (m_next, .inl (cI, 3, (.inl fn)))] s.heap.size = A at hD ⊢
  have hA : ∀ q : Nat, s.heap.size ≤ q → A q := fun q h => by rw [← hAe]; exact Or.inr h
  have hS : va_S A s.heap s.heap [] := va_S.rf
  have hP : va_P (dC, dI) vwCl [(m0, .inr (11, [.int 0, .ref m_tape, .int 0, .int 0, .int 0, .ref m_read, .int 0, .int 0, .int 0, .ref m_tets, .int 0, .int 0, .int 0, .int 0, .int 0, .int 0, .int 0, .int 0, .ref m_primes, .ref m_often, .ref m_normal, .ref m_termM, .ref m_termP, .ref m_termV, .ref m_sumFrom, .ref m_sumMany, .int 0, .int 0, .int 0, .int 0, .ref m_part, .ref m_fair, .ref m_heap, .ref m_pickTet, .ref m_pickEdge, .ref m_base, .ref m_baseM, .ref m_baseP, .ref m_rowsOf, .int 0, .ref m_grid, .ref m_times, .ref m_boxes, .ref m_cameFrom, .ref m_cameBy, .ref m_steps, .ref m_sides, .int w9, .int (-1), .ref m_next, .ref m_cube, .ref m_ways])), (m_next, .inl (cI, 3, (.inl fn)))] s.heap := hP
  have hl := lv_entry ([.ref m0, .int 2, .int 1, .int (nI n)]) (n := 4) (Nat.le_of_ble_eq_true rfl)
  rw [lg_entry_eq]
  generalize (lg_sl ([.ref m0, .int 2, .int 1, .int (nI n)]) ++ List.replicate (4 - (lg_sl ([.ref m0, .int 2, .int 1, .int (nI n)])).length) Slot.unset).toArray = ls at hl ⊢
  have hl : lv_has ls 4 [(0, .ref m0), (1, .int 2), (2, .int 1), (3, .int (nI n))] := hl
  have r1 : u2 % n ≤ 24 := Nat.le_trans (Nat.mod_le _ _) (by omega)
  have r2 : u1 % (n - 1) ≤ 24 := Nat.le_trans (Nat.mod_le _ _) (by omega)
  refine lv_aload_n hx hb dX11_goes__0 rfl (lv_at hl 0 rfl) ?_
  refine va_get (D := (dC, dI)) (ci := 11) (v := .ref m_next) (C := RX11) (T := TX11) (N := 52) hx hb hts hiX11 hown hK hP 0 rfl rfl 49 (by decide) (hts (.fieldLink RX11 97 "ScissorsTableModel" "next" "[I") (by decide +kernel)) (fun _ h9 => h9) rfl dX11_goes__1 ?_
  refine lv_iload_n hx hb dX11_goes__4 rfl (lv_at hl 1 rfl) ?_
  refine va_iald hx hb hK hP 1 1 rfl rfl (by show ¬ (_ ∨ _); decide) dX11_goes__5 ?_
  refine lv_topi (fun x_1 ex_1 => ?_)
  have ex_1 : x_1 = fn 2 := ex_1
  obtain rfl : x_1 = nI u2 := ex_1.trans hs.2.2
  refine lv_iload_n hx hb dX11_goes__6 rfl (lv_at hl 3 rfl) ?_
  refine lv_irem hx hb dX11_goes__7 (nI_ne0 (by omega) (by omega)) ?_
  refine lv_topi (fun x_2 ex_2 => ?_)
  obtain rfl : x_2 = nI (u2 % n) := ex_2.trans (pk_rem (a := u2) (d := n) (by omega) (by omega) (by omega))
  refine lv_if_ne (tgt := 41) hx hb dX11_goes__8 (by decide) (fun c_3 => ?_) (fun c_3 => ?_)
  · have c_3 : ¬ (u2 % n) = 0 := fun q9 => c_3 ((nI_eq (a := u2 % n) (b := 0) (by omega) (by omega)).mpr q9)
    refine lv_iconst (v := 0) hx hb dX11_goes__41 (by decide) ?_
    have hP9 := hP.sub (ws' := [(m0, .inr (11, [.int 0, .ref m_tape, .int 0, .int 0, .int 0, .ref m_read, .int 0, .int 0, .int 0, .ref m_tets, .int 0, .int 0, .int 0, .int 0, .int 0, .int 0, .int 0, .int 0, .ref m_primes, .ref m_often, .ref m_normal, .ref m_termM, .ref m_termP, .ref m_termV, .ref m_sumFrom, .ref m_sumMany, .int 0, .int 0, .int 0, .int 0, .ref m_part, .ref m_fair, .ref m_heap, .ref m_pickTet, .ref m_pickEdge, .ref m_base, .ref m_baseM, .ref m_baseP, .ref m_rowsOf, .int 0, .ref m_grid, .ref m_times, .ref m_boxes, .ref m_cameFrom, .ref m_cameBy, .ref m_steps, .ref m_sides, .int w9, .int (-1), .ref m_next, .ref m_cube, .ref m_ways])), (m_next, .inl (cI, 3, (.inl fn)))]) [0, 1] rfl
    have hD9 := hD.sub (ws' := [(m0, .inr (11, [.int 0, .ref m_tape, .int 0, .int 0, .int 0, .ref m_read, .int 0, .int 0, .int 0, .ref m_tets, .int 0, .int 0, .int 0, .int 0, .int 0, .int 0, .int 0, .int 0, .ref m_primes, .ref m_often, .ref m_normal, .ref m_termM, .ref m_termP, .ref m_termV, .ref m_sumFrom, .ref m_sumMany, .int 0, .int 0, .int 0, .int 0, .ref m_part, .ref m_fair, .ref m_heap, .ref m_pickTet, .ref m_pickEdge, .ref m_base, .ref m_baseM, .ref m_baseP, .ref m_rowsOf, .int 0, .ref m_grid, .ref m_times, .ref m_boxes, .ref m_cameFrom, .ref m_cameBy, .ref m_steps, .ref m_sides, .int w9, .int (-1), .ref m_next, .ref m_cube, .ref m_ways])), (m_next, .inl (cI, 3, (.inl fn)))]) [0, 1] (by decide) rfl
    refine W.widen (k := 0) (n := 0) (Nat.le_of_ble_eq_true rfl) (Nat.le_of_ble_eq_true rfl) ?_
    exact W.zret (v := 0) hx hb hr (by decide) (fun t ht hW => ⟨⟨0, (), rfl, (Or.inl ⟨rfl, (fun h9 => c_3 h9.1)⟩), fn, (fun h9 => absurd h9 (fun h9 => c_3 h9.1)), by rw [ht]; exact hP9, va_K.moved hW.alike hK, hD9⟩, hS.F ht⟩) hS.2.2 dX11_goes__42
  · have c_3 : (u2 % n) = 0 := (nI_eq (a := u2 % n) (b := 0) (by omega) (by omega)).mp c_3
    refine lv_aload_n hx hb dX11_goes__11 rfl (lv_at hl 0 rfl) ?_
    refine va_get (D := (dC, dI)) (ci := 11) (v := .ref m_next) (C := RX11) (T := TX11) (N := 52) hx hb hts hiX11 hown hK hP 0 rfl rfl 49 (by decide) (hts (.fieldLink RX11 97 "ScissorsTableModel" "next" "[I") (by decide +kernel)) (fun _ h9 => h9) rfl dX11_goes__12 ?_
    refine lv_iload_n hx hb dX11_goes__15 rfl (lv_at hl 2 rfl) ?_
    refine va_iald hx hb hK hP 1 1 rfl rfl (by show ¬ (_ ∨ _); decide) dX11_goes__16 ?_
    refine lv_topi (fun x_4 ex_4 => ?_)
    have ex_4 : x_4 = fn 1 := ex_4
    obtain rfl : x_4 = nI u1 := ex_4.trans hs.2.1
    refine lv_iload_n hx hb dX11_goes__17 rfl (lv_at hl 3 rfl) ?_
    refine lv_iconst (v := 1) hx hb dX11_goes__18 (by decide) ?_
    refine lv_isub hx hb dX11_goes__19 ?_
    refine lv_topi (fun x_5 ex_5 => ?_)
    obtain rfl : x_5 = nI (n - 1) := ex_5.trans (pk_sub (a := n) (b := 1) (by omega))
    refine lv_irem hx hb dX11_goes__20 (nI_ne0 (by omega) (by omega)) ?_
    refine lv_topi (fun x_6 ex_6 => ?_)
    obtain rfl : x_6 = nI (u1 % (n - 1)) := ex_6.trans (pk_rem (a := u1) (d := n - 1) (by omega) (by omega) (by omega))
    refine lv_if_ne (tgt := 41) hx hb dX11_goes__21 (by decide) (fun c_7 => ?_) (fun c_7 => ?_)
    · have c_7 : ¬ (u1 % (n - 1)) = 0 := fun q9 => c_7 ((nI_eq (a := u1 % (n - 1)) (b := 0) (by omega) (by omega)).mpr q9)
      refine lv_iconst (v := 0) hx hb dX11_goes__41 (by decide) ?_
      have hP9 := hP.sub (ws' := [(m0, .inr (11, [.int 0, .ref m_tape, .int 0, .int 0, .int 0, .ref m_read, .int 0, .int 0, .int 0, .ref m_tets, .int 0, .int 0, .int 0, .int 0, .int 0, .int 0, .int 0, .int 0, .ref m_primes, .ref m_often, .ref m_normal, .ref m_termM, .ref m_termP, .ref m_termV, .ref m_sumFrom, .ref m_sumMany, .int 0, .int 0, .int 0, .int 0, .ref m_part, .ref m_fair, .ref m_heap, .ref m_pickTet, .ref m_pickEdge, .ref m_base, .ref m_baseM, .ref m_baseP, .ref m_rowsOf, .int 0, .ref m_grid, .ref m_times, .ref m_boxes, .ref m_cameFrom, .ref m_cameBy, .ref m_steps, .ref m_sides, .int w9, .int (-1), .ref m_next, .ref m_cube, .ref m_ways])), (m_next, .inl (cI, 3, (.inl fn)))]) [0, 1] rfl
      have hD9 := hD.sub (ws' := [(m0, .inr (11, [.int 0, .ref m_tape, .int 0, .int 0, .int 0, .ref m_read, .int 0, .int 0, .int 0, .ref m_tets, .int 0, .int 0, .int 0, .int 0, .int 0, .int 0, .int 0, .int 0, .ref m_primes, .ref m_often, .ref m_normal, .ref m_termM, .ref m_termP, .ref m_termV, .ref m_sumFrom, .ref m_sumMany, .int 0, .int 0, .int 0, .int 0, .ref m_part, .ref m_fair, .ref m_heap, .ref m_pickTet, .ref m_pickEdge, .ref m_base, .ref m_baseM, .ref m_baseP, .ref m_rowsOf, .int 0, .ref m_grid, .ref m_times, .ref m_boxes, .ref m_cameFrom, .ref m_cameBy, .ref m_steps, .ref m_sides, .int w9, .int (-1), .ref m_next, .ref m_cube, .ref m_ways])), (m_next, .inl (cI, 3, (.inl fn)))]) [0, 1] (by decide) rfl
      refine W.widen (k := 0) (n := 0) (Nat.le_of_ble_eq_true rfl) (Nat.le_of_ble_eq_true rfl) ?_
      exact W.zret (v := 0) hx hb hr (by decide) (fun t ht hW => ⟨⟨0, (), rfl, (Or.inl ⟨rfl, (fun h9 => c_7 h9.2.1)⟩), fn, (fun h9 => absurd h9 (fun h9 => c_7 h9.2.1)), by rw [ht]; exact hP9, va_K.moved hW.alike hK, hD9⟩, hS.F ht⟩) hS.2.2 dX11_goes__42
    · have c_7 : (u1 % (n - 1)) = 0 := (nI_eq (a := u1 % (n - 1)) (b := 0) (by omega) (by omega)).mp c_7
      have hdl : u1 / (n - 1) * n ≤ 24 * 24 := Nat.mul_le_mul (Nat.le_trans (Nat.div_le_self _ _) (by omega)) hn.2
      refine lv_aload_n hx hb dX11_goes__24 rfl (lv_at hl 0 rfl) ?_
      refine va_get (D := (dC, dI)) (ci := 11) (v := .ref m_next) (C := RX11) (T := TX11) (N := 52) hx hb hts hiX11 hown hK hP 0 rfl rfl 49 (by decide) (hts (.fieldLink RX11 97 "ScissorsTableModel" "next" "[I") (by decide +kernel)) (fun _ h9 => h9) rfl dX11_goes__25 ?_
      refine lv_iload_n hx hb dX11_goes__28 rfl (lv_at hl 2 rfl) ?_
      refine va_iald hx hb hK hP 1 1 rfl rfl (by show ¬ (_ ∨ _); decide) dX11_goes__29 ?_
      refine lv_topi (fun x_8 ex_8 => ?_)
      have ex_8 : x_8 = fn 1 := ex_8
      obtain rfl : x_8 = nI u1 := ex_8.trans hs.2.1
      refine lv_iload_n hx hb dX11_goes__30 rfl (lv_at hl 3 rfl) ?_
      refine lv_iconst (v := 1) hx hb dX11_goes__31 (by decide) ?_
      refine lv_isub hx hb dX11_goes__32 ?_
      refine lv_topi (fun x_9 ex_9 => ?_)
      obtain rfl : x_9 = nI (n - 1) := ex_9.trans (pk_sub (a := n) (b := 1) (by omega))
      refine lv_idiv hx hb dX11_goes__33 (nI_ne0 (by omega) (by omega)) ?_
      refine lv_topi (fun x_10 ex_10 => ?_)
      obtain rfl : x_10 = nI (u1 / (n - 1)) := ex_10.trans (pk_div (a := u1) (d := n - 1) (by omega) (by omega) (by omega))
      refine lv_iload_n hx hb dX11_goes__34 rfl (lv_at hl 3 rfl) ?_
      refine lv_imul hx hb dX11_goes__35 ?_
      refine lv_topi (fun x_11 ex_11 => ?_)
      obtain rfl : x_11 = nI ((u1 / (n - 1)) * n) := ex_11.trans (pk_mul (u1 / (n - 1)) n)
      refine lv_bipush (v := 24) hx hb dX11_goes__36 (by decide) ?_
      refine lv_icmp_le (tgt := 43) hx hb dX11_goes__38 (by decide) (fun c_12 => ?_) (fun c_12 => ?_)
      · have c_12 : ((u1 / (n - 1)) * n) ≤ 24 := (nI_leI (a := (u1 / (n - 1)) * n) (b := 24) (by omega) (by omega)).mp c_12
        refine lv_aload_n hx hb dX11_goes__43 rfl (lv_at hl 0 rfl) ?_
        refine va_get (D := (dC, dI)) (ci := 11) (v := .ref m_next) (C := RX11) (T := TX11) (N := 52) hx hb hts hiX11 hown hK hP 0 rfl rfl 49 (by decide) (hts (.fieldLink RX11 97 "ScissorsTableModel" "next" "[I") (by decide +kernel)) (fun _ h9 => h9) rfl dX11_goes__44 ?_
        refine lv_iload_n hx hb dX11_goes__47 rfl (lv_at hl 1 rfl) ?_
        refine lv_aload_n hx hb dX11_goes__48 rfl (lv_at hl 0 rfl) ?_
        refine va_get (D := (dC, dI)) (ci := 11) (v := .ref m_next) (C := RX11) (T := TX11) (N := 52) hx hb hts hiX11 hown hK hP 0 rfl rfl 49 (by decide) (hts (.fieldLink RX11 97 "ScissorsTableModel" "next" "[I") (by decide +kernel)) (fun _ h9 => h9) rfl dX11_goes__49 ?_
        refine lv_iload_n hx hb dX11_goes__52 rfl (lv_at hl 1 rfl) ?_
        refine va_iald hx hb hK hP 1 1 rfl rfl (by show ¬ (_ ∨ _); decide) dX11_goes__53 ?_
        refine lv_topi (fun x_13 ex_13 => ?_)
        have ex_13 : x_13 = fn 2 := ex_13
        obtain rfl : x_13 = nI u2 := ex_13.trans hs.2.2
        refine lv_iload_n hx hb dX11_goes__54 rfl (lv_at hl 3 rfl) ?_
        refine lv_idiv hx hb dX11_goes__55 (nI_ne0 (by omega) (by omega)) ?_
        refine lv_topi (fun x_14 ex_14 => ?_)
        obtain rfl : x_14 = nI (u2 / n) := ex_14.trans (pk_div (a := u2) (d := n) (by omega) (by omega) (by omega))
        refine lv_iload_n hx hb dX11_goes__56 rfl (lv_at hl 3 rfl) ?_
        refine lv_iconst (v := 1) hx hb dX11_goes__57 (by decide) ?_
        refine lv_isub hx hb dX11_goes__58 ?_
        refine lv_topi (fun x_15 ex_15 => ?_)
        obtain rfl : x_15 = nI (n - 1) := ex_15.trans (pk_sub (a := n) (b := 1) (by omega))
        refine lv_imul hx hb dX11_goes__59 ?_
        refine lv_topi (fun x_16 ex_16 => ?_)
        obtain rfl : x_16 = nI ((u2 / n) * (n - 1)) := ex_16.trans (pk_mul (u2 / n) (n - 1))
        refine va_iast hx hb hK hP hD hS 1 1 rfl rfl (by show ¬ (_ ∨ _); decide) dX11_goes__60 (fun H locs hP hD hS => ?_)
        rw [show (2 : Int32).toNatClampNeg = 2 from rfl] at hP hD
        have hP : va_P (dC, dI) vwCl [(m0, .inr (11, [.int 0, .ref m_tape, .int 0, .int 0, .int 0, .ref m_read, .int 0, .int 0, .int 0, .ref m_tets, .int 0, .int 0, .int 0, .int 0, .int 0, .int 0, .int 0, .int 0, .ref m_primes, .ref m_often, .ref m_normal, .ref m_termM, .ref m_termP, .ref m_termV, .ref m_sumFrom, .ref m_sumMany, .int 0, .int 0, .int 0, .int 0, .ref m_part, .ref m_fair, .ref m_heap, .ref m_pickTet, .ref m_pickEdge, .ref m_base, .ref m_baseM, .ref m_baseP, .ref m_rowsOf, .int 0, .ref m_grid, .ref m_times, .ref m_boxes, .ref m_cameFrom, .ref m_cameBy, .ref m_steps, .ref m_sides, .int w9, .int (-1), .ref m_next, .ref m_cube, .ref m_ways])), (m_next, .inl (cI, 3, (.inl (upd fn 2 (nI ((u2 / n) * (n - 1)))))))] H := hP
        have hD : va_D A [(m0, .inr (11, [.int 0, .ref m_tape, .int 0, .int 0, .int 0, .ref m_read, .int 0, .int 0, .int 0, .ref m_tets, .int 0, .int 0, .int 0, .int 0, .int 0, .int 0, .int 0, .int 0, .ref m_primes, .ref m_often, .ref m_normal, .ref m_termM, .ref m_termP, .ref m_termV, .ref m_sumFrom, .ref m_sumMany, .int 0, .int 0, .int 0, .int 0, .ref m_part, .ref m_fair, .ref m_heap, .ref m_pickTet, .ref m_pickEdge, .ref m_base, .ref m_baseM, .ref m_baseP, .ref m_rowsOf, .int 0, .ref m_grid, .ref m_times, .ref m_boxes, .ref m_cameFrom, .ref m_cameBy, .ref m_steps, .ref m_sides, .int w9, .int (-1), .ref m_next, .ref m_cube, .ref m_ways])), (m_next, .inl (cI, 3, (.inl (upd fn 2 (nI ((u2 / n) * (n - 1)))))))] := hD
        refine lv_aload_n hx hb dX11_goes__61 rfl (lv_at hl 0 rfl) ?_
        refine va_get (D := (dC, dI)) (ci := 11) (v := .ref m_next) (C := RX11) (T := TX11) (N := 52) hx hb hts hiX11 hown hK hP 0 rfl rfl 49 (by decide) (hts (.fieldLink RX11 97 "ScissorsTableModel" "next" "[I") (by decide +kernel)) (fun _ h9 => h9) rfl dX11_goes__62 ?_
        refine lv_iload_n hx hb dX11_goes__65 rfl (lv_at hl 2 rfl) ?_
        refine lv_aload_n hx hb dX11_goes__66 rfl (lv_at hl 0 rfl) ?_
        refine va_get (D := (dC, dI)) (ci := 11) (v := .ref m_next) (C := RX11) (T := TX11) (N := 52) hx hb hts hiX11 hown hK hP 0 rfl rfl 49 (by decide) (hts (.fieldLink RX11 97 "ScissorsTableModel" "next" "[I") (by decide +kernel)) (fun _ h9 => h9) rfl dX11_goes__67 ?_
        refine lv_iload_n hx hb dX11_goes__70 rfl (lv_at hl 2 rfl) ?_
        refine va_iald hx hb hK hP 1 1 rfl rfl (by show ¬ (_ ∨ _); decide) dX11_goes__71 ?_
        refine lv_topi (fun x_17 ex_17 => ?_)
        have ex_17 : x_17 = (upd fn 2 (nI ((u2 / n) * (n - 1)))) 1 := ex_17
        obtain rfl : x_17 = nI u1 := ex_17.trans ((pk_un (by decide)).trans hs.2.1)
        refine lv_iload_n hx hb dX11_goes__72 rfl (lv_at hl 3 rfl) ?_
        refine lv_iconst (v := 1) hx hb dX11_goes__73 (by decide) ?_
        refine lv_isub hx hb dX11_goes__74 ?_
        refine lv_topi (fun x_18 ex_18 => ?_)
        obtain rfl : x_18 = nI (n - 1) := ex_18.trans (pk_sub (a := n) (b := 1) (by omega))
        refine lv_idiv hx hb dX11_goes__75 (nI_ne0 (by omega) (by omega)) ?_
        refine lv_topi (fun x_19 ex_19 => ?_)
        obtain rfl : x_19 = nI (u1 / (n - 1)) := ex_19.trans (pk_div (a := u1) (d := n - 1) (by omega) (by omega) (by omega))
        refine lv_iload_n hx hb dX11_goes__76 rfl (lv_at hl 3 rfl) ?_
        refine lv_imul hx hb dX11_goes__77 ?_
        refine lv_topi (fun x_20 ex_20 => ?_)
        obtain rfl : x_20 = nI ((u1 / (n - 1)) * n) := ex_20.trans (pk_mul (u1 / (n - 1)) n)
        refine va_iast hx hb hK hP hD hS 1 1 rfl rfl (by show ¬ (_ ∨ _); decide) dX11_goes__78 (fun H locs hP hD hS => ?_)
        rw [show (1 : Int32).toNatClampNeg = 1 from rfl] at hP hD
        have hP : va_P (dC, dI) vwCl [(m0, .inr (11, [.int 0, .ref m_tape, .int 0, .int 0, .int 0, .ref m_read, .int 0, .int 0, .int 0, .ref m_tets, .int 0, .int 0, .int 0, .int 0, .int 0, .int 0, .int 0, .int 0, .ref m_primes, .ref m_often, .ref m_normal, .ref m_termM, .ref m_termP, .ref m_termV, .ref m_sumFrom, .ref m_sumMany, .int 0, .int 0, .int 0, .int 0, .ref m_part, .ref m_fair, .ref m_heap, .ref m_pickTet, .ref m_pickEdge, .ref m_base, .ref m_baseM, .ref m_baseP, .ref m_rowsOf, .int 0, .ref m_grid, .ref m_times, .ref m_boxes, .ref m_cameFrom, .ref m_cameBy, .ref m_steps, .ref m_sides, .int w9, .int (-1), .ref m_next, .ref m_cube, .ref m_ways])), (m_next, .inl (cI, 3, (.inl (upd (upd fn 2 (nI ((u2 / n) * (n - 1)))) 1 (nI ((u1 / (n - 1)) * n))))))] H := hP
        have hD : va_D A [(m0, .inr (11, [.int 0, .ref m_tape, .int 0, .int 0, .int 0, .ref m_read, .int 0, .int 0, .int 0, .ref m_tets, .int 0, .int 0, .int 0, .int 0, .int 0, .int 0, .int 0, .int 0, .ref m_primes, .ref m_often, .ref m_normal, .ref m_termM, .ref m_termP, .ref m_termV, .ref m_sumFrom, .ref m_sumMany, .int 0, .int 0, .int 0, .int 0, .ref m_part, .ref m_fair, .ref m_heap, .ref m_pickTet, .ref m_pickEdge, .ref m_base, .ref m_baseM, .ref m_baseP, .ref m_rowsOf, .int 0, .ref m_grid, .ref m_times, .ref m_boxes, .ref m_cameFrom, .ref m_cameBy, .ref m_steps, .ref m_sides, .int w9, .int (-1), .ref m_next, .ref m_cube, .ref m_ways])), (m_next, .inl (cI, 3, (.inl (upd (upd fn 2 (nI ((u2 / n) * (n - 1)))) 1 (nI ((u1 / (n - 1)) * n))))))] := hD
        refine lv_iconst (v := 1) hx hb dX11_goes__79 (by decide) ?_
        have hP9 := hP.sub (ws' := [(m0, .inr (11, [.int 0, .ref m_tape, .int 0, .int 0, .int 0, .ref m_read, .int 0, .int 0, .int 0, .ref m_tets, .int 0, .int 0, .int 0, .int 0, .int 0, .int 0, .int 0, .int 0, .ref m_primes, .ref m_often, .ref m_normal, .ref m_termM, .ref m_termP, .ref m_termV, .ref m_sumFrom, .ref m_sumMany, .int 0, .int 0, .int 0, .int 0, .ref m_part, .ref m_fair, .ref m_heap, .ref m_pickTet, .ref m_pickEdge, .ref m_base, .ref m_baseM, .ref m_baseP, .ref m_rowsOf, .int 0, .ref m_grid, .ref m_times, .ref m_boxes, .ref m_cameFrom, .ref m_cameBy, .ref m_steps, .ref m_sides, .int w9, .int (-1), .ref m_next, .ref m_cube, .ref m_ways])), (m_next, .inl (cI, 3, (.inl (upd (upd fn 2 (nI ((u2 / n) * (n - 1)))) 1 (nI ((u1 / (n - 1)) * n))))))]) [0, 1] rfl
        have hD9 := hD.sub (ws' := [(m0, .inr (11, [.int 0, .ref m_tape, .int 0, .int 0, .int 0, .ref m_read, .int 0, .int 0, .int 0, .ref m_tets, .int 0, .int 0, .int 0, .int 0, .int 0, .int 0, .int 0, .int 0, .ref m_primes, .ref m_often, .ref m_normal, .ref m_termM, .ref m_termP, .ref m_termV, .ref m_sumFrom, .ref m_sumMany, .int 0, .int 0, .int 0, .int 0, .ref m_part, .ref m_fair, .ref m_heap, .ref m_pickTet, .ref m_pickEdge, .ref m_base, .ref m_baseM, .ref m_baseP, .ref m_rowsOf, .int 0, .ref m_grid, .ref m_times, .ref m_boxes, .ref m_cameFrom, .ref m_cameBy, .ref m_steps, .ref m_sides, .int w9, .int (-1), .ref m_next, .ref m_cube, .ref m_ways])), (m_next, .inl (cI, 3, (.inl (upd (upd fn 2 (nI ((u2 / n) * (n - 1)))) 1 (nI ((u1 / (n - 1)) * n))))))]) [0, 1] (by decide) rfl
        refine W.widen (k := 0) (n := 0) (Nat.le_of_ble_eq_true rfl) (Nat.le_of_ble_eq_true rfl) ?_
        exact W.zret (v := 1) hx hb hr (by decide) (fun t ht hW => ⟨⟨1, (), rfl, (Or.inr ⟨rfl, ⟨c_3, c_7, c_12⟩⟩), (upd (upd fn 2 (nI ((u2 / n) * (n - 1)))) 1 (nI ((u1 / (n - 1)) * n))), (fun _ => ⟨(pk_un (by decide)).trans ((pk_un (by decide)).trans hs.1), pk_us, (pk_un (by decide)).trans pk_us⟩), by rw [ht]; exact hP9, va_K.moved hW.alike hK, hD9⟩, hS.F ht⟩) hS.2.2 dX11_goes__80
      · have c_12 : ¬ ((u1 / (n - 1)) * n) ≤ 24 := fun q9 => c_12 ((nI_leI (a := (u1 / (n - 1)) * n) (b := 24) (by omega) (by omega)).mpr q9)
        refine lv_iconst (v := 0) hx hb dX11_goes__41 (by decide) ?_
        have hP9 := hP.sub (ws' := [(m0, .inr (11, [.int 0, .ref m_tape, .int 0, .int 0, .int 0, .ref m_read, .int 0, .int 0, .int 0, .ref m_tets, .int 0, .int 0, .int 0, .int 0, .int 0, .int 0, .int 0, .int 0, .ref m_primes, .ref m_often, .ref m_normal, .ref m_termM, .ref m_termP, .ref m_termV, .ref m_sumFrom, .ref m_sumMany, .int 0, .int 0, .int 0, .int 0, .ref m_part, .ref m_fair, .ref m_heap, .ref m_pickTet, .ref m_pickEdge, .ref m_base, .ref m_baseM, .ref m_baseP, .ref m_rowsOf, .int 0, .ref m_grid, .ref m_times, .ref m_boxes, .ref m_cameFrom, .ref m_cameBy, .ref m_steps, .ref m_sides, .int w9, .int (-1), .ref m_next, .ref m_cube, .ref m_ways])), (m_next, .inl (cI, 3, (.inl fn)))]) [0, 1] rfl
        have hD9 := hD.sub (ws' := [(m0, .inr (11, [.int 0, .ref m_tape, .int 0, .int 0, .int 0, .ref m_read, .int 0, .int 0, .int 0, .ref m_tets, .int 0, .int 0, .int 0, .int 0, .int 0, .int 0, .int 0, .int 0, .ref m_primes, .ref m_often, .ref m_normal, .ref m_termM, .ref m_termP, .ref m_termV, .ref m_sumFrom, .ref m_sumMany, .int 0, .int 0, .int 0, .int 0, .ref m_part, .ref m_fair, .ref m_heap, .ref m_pickTet, .ref m_pickEdge, .ref m_base, .ref m_baseM, .ref m_baseP, .ref m_rowsOf, .int 0, .ref m_grid, .ref m_times, .ref m_boxes, .ref m_cameFrom, .ref m_cameBy, .ref m_steps, .ref m_sides, .int w9, .int (-1), .ref m_next, .ref m_cube, .ref m_ways])), (m_next, .inl (cI, 3, (.inl fn)))]) [0, 1] (by decide) rfl
        refine W.widen (k := 0) (n := 0) (Nat.le_of_ble_eq_true rfl) (Nat.le_of_ble_eq_true rfl) ?_
        exact W.zret (v := 0) hx hb hr (by decide) (fun t ht hW => ⟨⟨0, (), rfl, (Or.inl ⟨rfl, (fun h9 => c_12 h9.2.2)⟩), fn, (fun h9 => absurd h9 (fun h9 => c_12 h9.2.2)), by rw [ht]; exact hP9, va_K.moved hW.alike hK, hD9⟩, hS.F ht⟩) hS.2.2 dX11_goes__42
