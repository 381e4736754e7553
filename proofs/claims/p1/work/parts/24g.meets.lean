theorem dX11_meetsBox_0 : decode cX11_meetsBox 0 = .ok (.iconst 0, 1) := by decide +kernel
theorem dX11_meetsBox_1 : decode cX11_meetsBox 1 = .ok (.istore 6, 2) := by decide +kernel
theorem dX11_meetsBox_3 : decode cX11_meetsBox 3 = .ok (.iload 6, 2) := by decide +kernel
theorem dX11_meetsBox_5 : decode cX11_meetsBox 5 = .ok (.aload_n 0, 1) := by decide +kernel
theorem dX11_meetsBox_6 : decode cX11_meetsBox 6 = .ok (.getfield 448, 3) := by decide +kernel
theorem dX11_meetsBox_9 : decode cX11_meetsBox 9 = .ok (.if_icmp .ge 53, 3) := by decide +kernel
theorem dX11_meetsBox_12 : decode cX11_meetsBox 12 = .ok (.aload_n 0, 1) := by decide +kernel
theorem dX11_meetsBox_13 : decode cX11_meetsBox 13 = .ok (.getfield 78, 3) := by decide +kernel
theorem dX11_meetsBox_16 : decode cX11_meetsBox 16 = .ok (.iconst 3, 1) := by decide +kernel
theorem dX11_meetsBox_17 : decode cX11_meetsBox 17 = .ok (.iload 6, 2) := by decide +kernel
theorem dX11_meetsBox_19 : decode cX11_meetsBox 19 = .ok (.imul, 1) := by decide +kernel
theorem dX11_meetsBox_20 : decode cX11_meetsBox 20 = .ok (.iaload, 1) := by decide +kernel
theorem dX11_meetsBox_21 : decode cX11_meetsBox 21 = .ok (.iload_n 1, 1) := by decide +kernel
theorem dX11_meetsBox_22 : decode cX11_meetsBox 22 = .ok (.if_icmp .ne 34, 3) := by decide +kernel
theorem dX11_meetsBox_25 : decode cX11_meetsBox 25 = .ok (.aload_n 0, 1) := by decide +kernel
theorem dX11_meetsBox_26 : decode cX11_meetsBox 26 = .ok (.getfield 78, 3) := by decide +kernel
theorem dX11_meetsBox_29 : decode cX11_meetsBox 29 = .ok (.iconst 3, 1) := by decide +kernel
theorem dX11_meetsBox_30 : decode cX11_meetsBox 30 = .ok (.iload 6, 2) := by decide +kernel
theorem dX11_meetsBox_32 : decode cX11_meetsBox 32 = .ok (.imul, 1) := by decide +kernel
theorem dX11_meetsBox_33 : decode cX11_meetsBox 33 = .ok (.iconst 1, 1) := by decide +kernel
theorem dX11_meetsBox_34 : decode cX11_meetsBox 34 = .ok (.iadd, 1) := by decide +kernel
theorem dX11_meetsBox_35 : decode cX11_meetsBox 35 = .ok (.iaload, 1) := by decide +kernel
theorem dX11_meetsBox_36 : decode cX11_meetsBox 36 = .ok (.iload_n 2, 1) := by decide +kernel
theorem dX11_meetsBox_37 : decode cX11_meetsBox 37 = .ok (.if_icmp .ne 19, 3) := by decide +kernel
theorem dX11_meetsBox_40 : decode cX11_meetsBox 40 = .ok (.aload_n 0, 1) := by decide +kernel
theorem dX11_meetsBox_41 : decode cX11_meetsBox 41 = .ok (.getfield 78, 3) := by decide +kernel
theorem dX11_meetsBox_44 : decode cX11_meetsBox 44 = .ok (.iconst 3, 1) := by decide +kernel
theorem dX11_meetsBox_45 : decode cX11_meetsBox 45 = .ok (.iload 6, 2) := by decide +kernel
theorem dX11_meetsBox_47 : decode cX11_meetsBox 47 = .ok (.imul, 1) := by decide +kernel
theorem dX11_meetsBox_48 : decode cX11_meetsBox 48 = .ok (.iconst 2, 1) := by decide +kernel
theorem dX11_meetsBox_49 : decode cX11_meetsBox 49 = .ok (.iadd, 1) := by decide +kernel
theorem dX11_meetsBox_50 : decode cX11_meetsBox 50 = .ok (.iaload, 1) := by decide +kernel
theorem dX11_meetsBox_51 : decode cX11_meetsBox 51 = .ok (.iload_n 3, 1) := by decide +kernel
theorem dX11_meetsBox_52 : decode cX11_meetsBox 52 = .ok (.if_icmp .ne 4, 3) := by decide +kernel
theorem dX11_meetsBox_55 : decode cX11_meetsBox 55 = .ok (.return_, 1) := by decide +kernel
theorem dX11_meetsBox_56 : decode cX11_meetsBox 56 = .ok (.iinc 6 1, 3) := by decide +kernel
theorem dX11_meetsBox_59 : decode cX11_meetsBox 59 = .ok (.goto (-56), 3) := by decide +kernel
theorem dX11_meetsBox_62 : decode cX11_meetsBox 62 = .ok (.aload_n 0, 1) := by decide +kernel
theorem dX11_meetsBox_63 : decode cX11_meetsBox 63 = .ok (.getfield 78, 3) := by decide +kernel
theorem dX11_meetsBox_66 : decode cX11_meetsBox 66 = .ok (.iconst 3, 1) := by decide +kernel
theorem dX11_meetsBox_67 : decode cX11_meetsBox 67 = .ok (.aload_n 0, 1) := by decide +kernel
theorem dX11_meetsBox_68 : decode cX11_meetsBox 68 = .ok (.getfield 448, 3) := by decide +kernel
theorem dX11_meetsBox_71 : decode cX11_meetsBox 71 = .ok (.imul, 1) := by decide +kernel
theorem dX11_meetsBox_72 : decode cX11_meetsBox 72 = .ok (.iload_n 1, 1) := by decide +kernel
theorem dX11_meetsBox_73 : decode cX11_meetsBox 73 = .ok (.iastore, 1) := by decide +kernel
theorem dX11_meetsBox_74 : decode cX11_meetsBox 74 = .ok (.aload_n 0, 1) := by decide +kernel
theorem dX11_meetsBox_75 : decode cX11_meetsBox 75 = .ok (.getfield 78, 3) := by decide +kernel
theorem dX11_meetsBox_78 : decode cX11_meetsBox 78 = .ok (.iconst 3, 1) := by decide +kernel
theorem dX11_meetsBox_79 : decode cX11_meetsBox 79 = .ok (.aload_n 0, 1) := by decide +kernel
theorem dX11_meetsBox_80 : decode cX11_meetsBox 80 = .ok (.getfield 448, 3) := by decide +kernel
theorem dX11_meetsBox_83 : decode cX11_meetsBox 83 = .ok (.imul, 1) := by decide +kernel
theorem dX11_meetsBox_84 : decode cX11_meetsBox 84 = .ok (.iconst 1, 1) := by decide +kernel
theorem dX11_meetsBox_85 : decode cX11_meetsBox 85 = .ok (.iadd, 1) := by decide +kernel
theorem dX11_meetsBox_86 : decode cX11_meetsBox 86 = .ok (.iload_n 2, 1) := by decide +kernel
theorem dX11_meetsBox_87 : decode cX11_meetsBox 87 = .ok (.iastore, 1) := by decide +kernel
theorem dX11_meetsBox_88 : decode cX11_meetsBox 88 = .ok (.aload_n 0, 1) := by decide +kernel
theorem dX11_meetsBox_89 : decode cX11_meetsBox 89 = .ok (.getfield 78, 3) := by decide +kernel
theorem dX11_meetsBox_92 : decode cX11_meetsBox 92 = .ok (.iconst 3, 1) := by decide +kernel
theorem dX11_meetsBox_93 : decode cX11_meetsBox 93 = .ok (.aload_n 0, 1) := by decide +kernel
theorem dX11_meetsBox_94 : decode cX11_meetsBox 94 = .ok (.getfield 448, 3) := by decide +kernel
theorem dX11_meetsBox_97 : decode cX11_meetsBox 97 = .ok (.imul, 1) := by decide +kernel
theorem dX11_meetsBox_98 : decode cX11_meetsBox 98 = .ok (.iconst 2, 1) := by decide +kernel
theorem dX11_meetsBox_99 : decode cX11_meetsBox 99 = .ok (.iadd, 1) := by decide +kernel
theorem dX11_meetsBox_100 : decode cX11_meetsBox 100 = .ok (.iload_n 3, 1) := by decide +kernel
theorem dX11_meetsBox_101 : decode cX11_meetsBox 101 = .ok (.iastore, 1) := by decide +kernel
theorem dX11_meetsBox_102 : decode cX11_meetsBox 102 = .ok (.aload_n 0, 1) := by decide +kernel
theorem dX11_meetsBox_103 : decode cX11_meetsBox 103 = .ok (.getfield 81, 3) := by decide +kernel
theorem dX11_meetsBox_106 : decode cX11_meetsBox 106 = .ok (.aload_n 0, 1) := by decide +kernel
theorem dX11_meetsBox_107 : decode cX11_meetsBox 107 = .ok (.getfield 448, 3) := by decide +kernel
theorem dX11_meetsBox_110 : decode cX11_meetsBox 110 = .ok (.iload 4, 2) := by decide +kernel
theorem dX11_meetsBox_112 : decode cX11_meetsBox 112 = .ok (.iastore, 1) := by decide +kernel
theorem dX11_meetsBox_113 : decode cX11_meetsBox 113 = .ok (.aload_n 0, 1) := by decide +kernel
theorem dX11_meetsBox_114 : decode cX11_meetsBox 114 = .ok (.getfield 84, 3) := by decide +kernel
theorem dX11_meetsBox_117 : decode cX11_meetsBox 117 = .ok (.aload_n 0, 1) := by decide +kernel
theorem dX11_meetsBox_118 : decode cX11_meetsBox 118 = .ok (.getfield 448, 3) := by decide +kernel
theorem dX11_meetsBox_121 : decode cX11_meetsBox 121 = .ok (.iload 5, 2) := by decide +kernel
theorem dX11_meetsBox_123 : decode cX11_meetsBox 123 = .ok (.iastore, 1) := by decide +kernel
theorem dX11_meetsBox_124 : decode cX11_meetsBox 124 = .ok (.aload_n 0, 1) := by decide +kernel
theorem dX11_meetsBox_125 : decode cX11_meetsBox 125 = .ok (.dup, 1) := by decide +kernel
theorem dX11_meetsBox_126 : decode cX11_meetsBox 126 = .ok (.getfield 448, 3) := by decide +kernel
theorem dX11_meetsBox_129 : decode cX11_meetsBox 129 = .ok (.iconst 1, 1) := by decide +kernel
theorem dX11_meetsBox_130 : decode cX11_meetsBox 130 = .ok (.iadd, 1) := by decide +kernel
theorem dX11_meetsBox_131 : decode cX11_meetsBox 131 = .ok (.putfield 448, 3) := by decide +kernel
theorem dX11_meetsBox_134 : decode cX11_meetsBox 134 = .ok (.return_, 1) := by decide +kernel
set_option maxHeartbeats 4000000 in
set_option maxRecDepth 100000 in
theorem c_X11_meetsBox (l : Launch) (dC : Nat → ClassId) (dI : Nat → Nat → Nat) (cB cI cJ : ClassId) (sz : Nat) (m0 m_tape m_read m_tets m_primes m_often m_normal m_termM m_termP m_termV m_sumFrom m_sumMany m_part m_fair m_heap m_pickTet m_pickEdge m_base m_baseM m_baseP m_rowsOf m_grid m_times m_boxes m_cameFrom m_cameBy m_steps m_sides m_next m_cube m_ways : Nat) (Q : List qE) (fb fc fd : Nat → Int32) (V u0 u1 u2 k d : Nat) (w1 w2 : Int32) (hu : (1 ≤ u0 ∧ u0 ≤ 24) ∧ (1 ≤ u1 ∧ u1 ≤ 24) ∧ (1 ≤ u2 ∧ u2 ≤ 24)) (hV : u0 * u1 * u2 = V) (hI : q_in V Q) (hR : RR Q fb fc) (hl2 : Q.length ≤ 1000) (hw : w1 = if Q.length = 0 then -1 else nI k) : Met l yX11_meetsBox wsX11_meetsBox ({ frames := 1, cells := 0, slots := 0, locals := 24 }) (va_Pc [.ref m0, .int (nI u0), .int (nI u1), .int (nI u2), .int w1, .int w2] (fun U => U.heap.size = sz ∧ va_P (dC, dI) vwCl [(m0, .inr (11, [.int 0, .ref m_tape, .int 0, .int 0, .int 0, .ref m_read, .int 0, .int 0, .int 0, .ref m_tets, .int 0, .int 0, .int 0, .int 0, .int 0, .int 0, .int 0, .int 0, .ref m_primes, .ref m_often, .ref m_normal, .ref m_termM, .ref m_termP, .ref m_termV, .ref m_sumFrom, .ref m_sumMany, .int 0, .int 0, .int 0, .int 0, .ref m_part, .ref m_fair, .ref m_heap, .ref m_pickTet, .ref m_pickEdge, .ref m_base, .ref m_baseM, .ref m_baseP, .ref m_rowsOf, .int 0, .ref m_grid, .ref m_times, .ref m_boxes, .ref m_cameFrom, .ref m_cameBy, .ref m_steps, .ref m_sides, .int (nI Q.length), .int (-1), .ref m_next, .ref m_cube, .ref m_ways])), (m_boxes, .inl (cI, 3600, (.inl fb))), (m_cameFrom, .inl (cI, 1200, (.inl fc))), (m_cameBy, .inl (cI, 1200, (.inl fd)))] U.heap ∧ va_K (dC, dI) vwCl [(cB, .byte), (cI, .int), (cJ, .long)] U ∧ va_D (fun _ => True) [(m0, .inr (11, [.int 0, .ref m_tape, .int 0, .int 0, .int 0, .ref m_read, .int 0, .int 0, .int 0, .ref m_tets, .int 0, .int 0, .int 0, .int 0, .int 0, .int 0, .int 0, .int 0, .ref m_primes, .ref m_often, .ref m_normal, .ref m_termM, .ref m_termP, .ref m_termV, .ref m_sumFrom, .ref m_sumMany, .int 0, .int 0, .int 0, .int 0, .ref m_part, .ref m_fair, .ref m_heap, .ref m_pickTet, .ref m_pickEdge, .ref m_base, .ref m_baseM, .ref m_baseP, .ref m_rowsOf, .int 0, .ref m_grid, .ref m_times, .ref m_boxes, .ref m_cameFrom, .ref m_cameBy, .ref m_steps, .ref m_sides, .int (nI Q.length), .int (-1), .ref m_next, .ref m_cube, .ref m_ways])), (m_boxes, .inl (cI, 3600, (.inl fb))), (m_cameFrom, .inl (cI, 1200, (.inl fc))), (m_cameBy, .inl (cI, 1200, (.inl fd)))])) (va_Qv (fun _ : Unit => True) (fun _ t => ∃ fz : Nat → Int32, ∃ fy : Nat → Int32, ∃ fw : Nat → Int32, RR (q_see Q k d (bx_mk u0 u1 u2)) fz fy ∧ va_P (dC, dI) vwCl [(m0, .inr (11, [.int 0, .ref m_tape, .int 0, .int 0, .int 0, .ref m_read, .int 0, .int 0, .int 0, .ref m_tets, .int 0, .int 0, .int 0, .int 0, .int 0, .int 0, .int 0, .int 0, .ref m_primes, .ref m_often, .ref m_normal, .ref m_termM, .ref m_termP, .ref m_termV, .ref m_sumFrom, .ref m_sumMany, .int 0, .int 0, .int 0, .int 0, .ref m_part, .ref m_fair, .ref m_heap, .ref m_pickTet, .ref m_pickEdge, .ref m_base, .ref m_baseM, .ref m_baseP, .ref m_rowsOf, .int 0, .ref m_grid, .ref m_times, .ref m_boxes, .ref m_cameFrom, .ref m_cameBy, .ref m_steps, .ref m_sides, .int (nI (q_see Q k d (bx_mk u0 u1 u2)).length), .int (-1), .ref m_next, .ref m_cube, .ref m_ways])), (m_boxes, .inl (cI, 3600, (.inl fz))), (m_cameFrom, .inl (cI, 1200, (.inl fy))), (m_cameBy, .inl (cI, 1200, (.inl fw)))] t.heap ∧ va_K (dC, dI) vwCl [(cB, .byte), (cI, .int), (cJ, .long)] t ∧ va_D (va_A [(m0, .inr (11, [.int 0, .ref m_tape, .int 0, .int 0, .int 0, .ref m_read, .int 0, .int 0, .int 0, .ref m_tets, .int 0, .int 0, .int 0, .int 0, .int 0, .int 0, .int 0, .int 0, .ref m_primes, .ref m_often, .ref m_normal, .ref m_termM, .ref m_termP, .ref m_termV, .ref m_sumFrom, .ref m_sumMany, .int 0, .int 0, .int 0, .int 0, .ref m_part, .ref m_fair, .ref m_heap, .ref m_pickTet, .ref m_pickEdge, .ref m_base, .ref m_baseM, .ref m_baseP, .ref m_rowsOf, .int 0, .ref m_grid, .ref m_times, .ref m_boxes, .ref m_cameFrom, .ref m_cameBy, .ref m_steps, .ref m_sides, .int (nI Q.length), .int (-1), .ref m_next, .ref m_cube, .ref m_ways])), (m_boxes, .inl (cI, 3600, (.inl fb))), (m_cameFrom, .inl (cI, 1200, (.inl fc))), (m_cameBy, .inl (cI, 1200, (.inl fd)))] sz) [(m0, .inr (11, [.int 0, .ref m_tape, .int 0, .int 0, .int 0, .ref m_read, .int 0, .int 0, .int 0, .ref m_tets, .int 0, .int 0, .int 0, .int 0, .int 0, .int 0, .int 0, .int 0, .ref m_primes, .ref m_often, .ref m_normal, .ref m_termM, .ref m_termP, .ref m_termV, .ref m_sumFrom, .ref m_sumMany, .int 0, .int 0, .int 0, .int 0, .ref m_part, .ref m_fair, .ref m_heap, .ref m_pickTet, .ref m_pickEdge, .ref m_base, .ref m_baseM, .ref m_baseP, .ref m_rowsOf, .int 0, .ref m_grid, .ref m_times, .ref m_boxes, .ref m_cameFrom, .ref m_cameBy, .ref m_steps, .ref m_sides, .int (nI (q_see Q k d (bx_mk u0 u1 u2)).length), .int (-1), .ref m_next, .ref m_cube, .ref m_ways])), (m_boxes, .inl (cI, 3600, (.inl fz))), (m_cameFrom, .inl (cI, 1200, (.inl fy))), (m_cameBy, .inl (cI, 1200, (.inl fw)))]) (va_A [(m0, .inr (11, [.int 0, .ref m_tape, .int 0, .int 0, .int 0, .ref m_read, .int 0, .int 0, .int 0, .ref m_tets, .int 0, .int 0, .int 0, .int 0, .int 0, .int 0, .int 0, .int 0, .ref m_primes, .ref m_often, .ref m_normal, .ref m_termM, .ref m_termP, .ref m_termV, .ref m_sumFrom, .ref m_sumMany, .int 0, .int 0, .int 0, .int 0, .ref m_part, .ref m_fair, .ref m_heap, .ref m_pickTet, .ref m_pickEdge, .ref m_base, .ref m_baseM, .ref m_baseP, .ref m_rowsOf, .int 0, .ref m_grid, .ref m_times, .ref m_boxes, .ref m_cameFrom, .ref m_cameBy, .ref m_steps, .ref m_sides, .int (nI Q.length), .int (-1), .ref m_next, .ref m_cube, .ref m_ways])), (m_boxes, .inl (cI, 3600, (.inl fb))), (m_cameFrom, .inl (cI, 1200, (.inl fc))), (m_cameBy, .inl (cI, 1200, (.inl fd)))] sz)) 0 0 (va_A [(m0, .inr (11, [.int 0, .ref m_tape, .int 0, .int 0, .int 0, .ref m_read, .int 0, .int 0, .int 0, .ref m_tets, .int 0, .int 0, .int 0, .int 0, .int 0, .int 0, .int 0, .int 0, .ref m_primes, .ref m_often, .ref m_normal, .ref m_termM, .ref m_termP, .ref m_termV, .ref m_sumFrom, .ref m_sumMany, .int 0, .int 0, .int 0, .int 0, .ref m_part, .ref m_fair, .ref m_heap, .ref m_pickTet, .ref m_pickEdge, .ref m_base, .ref m_baseM, .ref m_baseP, .ref m_rowsOf, .int 0, .ref m_grid, .ref m_times, .ref m_boxes, .ref m_cameFrom, .ref m_cameBy, .ref m_steps, .ref m_sides, .int (nI Q.length), .int (-1), .ref m_next, .ref m_cube, .ref m_ways])), (m_boxes, .inl (cI, 3600, (.inl fb))), (m_cameFrom, .inl (cI, 1200, (.inl fc))), (m_cameBy, .inl (cI, 1200, (.inl fd)))] sz) := by
  refine Met.ofW (cc := cX11_meetsBox) (maxL := 7) (ret := none) (by decide) rfl ?_
  intro p e s m args below meth c s₁ B hml hv
  obtain ⟨rfl, hsz, hP, hK, hD0⟩ := hv
  have hx := B.exec
  have hb := B.bytes
  have hr := B.returns
  have hts := atoms_spec (ws := wsX11_meetsBox) B.pre
  have hown : s.vm.findClass RX11 = some m.cls := findClass_of_methodNamed B.named
  have hlocks := B.notSynchronized
  have hiX11 : ∀ w ∈ u_ws RX11 TX11 52, w ∈ wsX11_meetsBox := by decide +kernel
  subst hsz
  have hD := hD0.self (sz := s.heap.size)
  generalize hAe : va_A [(m0, .inr (11, [.int 0, .ref m_tape, .int 0, .int 0, .int 0, .ref m_read, .int 0, .int 0, .int 0, .ref m_tets, .int 0, .int 0, .int 0, .int 0, .int 0, .int 0, .int 0, .int 0, .ref m_primes, .ref m_often, .ref m_normal, .ref m_termM, .ref m_termP, .ref m_termV, .ref m_sumFrom, .ref m_sumMany, .int 0, .int 0, .int 0, .int 0, .ref m_part, .ref m_fair, .ref m_heap, .ref m_pickTet, .ref m_pickEdge, .ref m_base, .ref m_baseM, .ref m_baseP, .ref m_rowsOf, .int 0, .ref m_grid, .ref m_times, .ref m_boxes, .ref m_cameFrom, .ref m_cameBy, .ref m_steps, .ref m_sides, .int (nI Q.length), .int (-1), .ref m_next, .ref m_cube, .ref m_ways])), (m_boxes, .inl (cI, 3600, (.inl fb))), (m_cameFrom, .inl (cI, 1200, (.inl fc))), (m_cameBy, .inl (cI, 1200, (.inl fd)))] s.heap.size = A at hD ⊢
  have hA : ∀ q : Nat, s.heap.size ≤ q → A q := fun q h => by rw [← hAe]; exact Or.inr h
  have hS : va_S A s.heap s.heap [] := va_S.rf
  have hP : va_P (dC, dI) vwCl [(m0, .inr (11, [.int 0, .ref m_tape, .int 0, .int 0, .int 0, .ref m_read, .int 0, .int 0, .int 0, .ref m_tets, .int 0, .int 0, .int 0, .int 0, .int 0, .int 0, .int 0, .int 0, .ref m_primes, .ref m_often, .ref m_normal, .ref m_termM, .ref m_termP, .ref m_termV, .ref m_sumFrom, .ref m_sumMany, .int 0, .int 0, .int 0, .int 0, .ref m_part, .ref m_fair, .ref m_heap, .ref m_pickTet, .ref m_pickEdge, .ref m_base, .ref m_baseM, .ref m_baseP, .ref m_rowsOf, .int 0, .ref m_grid, .ref m_times, .ref m_boxes, .ref m_cameFrom, .ref m_cameBy, .ref m_steps, .ref m_sides, .int (nI Q.length), .int (-1), .ref m_next, .ref m_cube, .ref m_ways])), (m_boxes, .inl (cI, 3600, (.inl fb))), (m_cameFrom, .inl (cI, 1200, (.inl fc))), (m_cameBy, .inl (cI, 1200, (.inl fd)))] s.heap := hP
  have hl := lv_entry ([.ref m0, .int (nI u0), .int (nI u1), .int (nI u2), .int w1, .int w2]) (n := 7) (Nat.le_of_ble_eq_true rfl)
  rw [lg_entry_eq]
  generalize (lg_sl ([.ref m0, .int (nI u0), .int (nI u1), .int (nI u2), .int w1, .int w2]) ++ List.replicate (7 - (lg_sl ([.ref m0, .int (nI u0), .int (nI u1), .int (nI u2), .int w1, .int w2])).length) Slot.unset).toArray = ls at hl ⊢
  have hl : lv_has ls 7 [(0, .ref m0), (1, .int (nI u0)), (2, .int (nI u1)), (3, .int (nI u2)), (4, .int w1), (5, .int w2)] := hl
  refine lv_iconst (v := 0) hx hb dX11_meetsBox_0 (by decide) ?_
  refine lv_istore (lv' := [(6, .int 0), (0, .ref m0), (1, .int (nI u0)), (2, .int (nI u1)), (3, .int (nI u2)), (4, .int w1), (5, .int w2)]) hx hb dX11_meetsBox_1 hl (by decide) rfl (fun ls hl => ?_)
  have hbi : bx_in V (bx_mk u0 u1 u2) := ⟨u0, u1, u2, hu.1, hu.2.1, hu.2.2, hV, rfl⟩
  refine nk_G (fun G inn out => ?_)
  have loop : ∀ (f : Nat) (i : Nat) (h5 : i + f = Q.length + 1) (h6 : i ≤ Q.length) (hno : ∀ (t : Nat) (e : qE), t < i → Q[t]? = some e → ¬ e.1 / 32 = bx_mk u0 u1 u2 / 32) (H : Heap) (locs : List Loc) (_ : va_P (dC, dI) vwCl [(m0, .inr (11, [.int 0, .ref m_tape, .int 0, .int 0, .int 0, .ref m_read, .int 0, .int 0, .int 0, .ref m_tets, .int 0, .int 0, .int 0, .int 0, .int 0, .int 0, .int 0, .int 0, .ref m_primes, .ref m_often, .ref m_normal, .ref m_termM, .ref m_termP, .ref m_termV, .ref m_sumFrom, .ref m_sumMany, .int 0, .int 0, .int 0, .int 0, .ref m_part, .ref m_fair, .ref m_heap, .ref m_pickTet, .ref m_pickEdge, .ref m_base, .ref m_baseM, .ref m_baseP, .ref m_rowsOf, .int 0, .ref m_grid, .ref m_times, .ref m_boxes, .ref m_cameFrom, .ref m_cameBy, .ref m_steps, .ref m_sides, .int (nI Q.length), .int (-1), .ref m_next, .ref m_cube, .ref m_ways])), (m_boxes, .inl (cI, 3600, (.inl fb))), (m_cameFrom, .inl (cI, 1200, (.inl fc))), (m_cameBy, .inl (cI, 1200, (.inl fd)))] H) (_ : va_D A [(m0, .inr (11, [.int 0, .ref m_tape, .int 0, .int 0, .int 0, .ref m_read, .int 0, .int 0, .int 0, .ref m_tets, .int 0, .int 0, .int 0, .int 0, .int 0, .int 0, .int 0, .int 0, .ref m_primes, .ref m_often, .ref m_normal, .ref m_termM, .ref m_termP, .ref m_termV, .ref m_sumFrom, .ref m_sumMany, .int 0, .int 0, .int 0, .int 0, .ref m_part, .ref m_fair, .ref m_heap, .ref m_pickTet, .ref m_pickEdge, .ref m_base, .ref m_baseM, .ref m_baseP, .ref m_rowsOf, .int 0, .ref m_grid, .ref m_times, .ref m_boxes, .ref m_cameFrom, .ref m_cameBy, .ref m_steps, .ref m_sides, .int (nI Q.length), .int (-1), .ref m_next, .ref m_cube, .ref m_ways])), (m_boxes, .inl (cI, 3600, (.inl fb))), (m_cameFrom, .inl (cI, 1200, (.inl fc))), (m_cameBy, .inl (cI, 1200, (.inl fd)))]) (_ : va_S A s.heap H locs) (ls : Array Slot) (_ : lv_has ls 7 [(0, .ref m0), (1, .int (nI u0)), (2, .int (nI u1)), (3, .int (nI u2)), (4, .int w1), (5, .int w2), (6, .int (nI i))]), G H locs (F0 m 3 ls []) := by
    intro f
    induction f with
    | zero =>
      intro i h5 h6 hno H locs hP hD hS ls hl
      exfalso; omega
    | succ f ih =>
      intro i h5 h6 hno H locs hP hD hS ls hl
      refine inn _ _ _ ?_
      refine lv_iload hx hb dX11_meetsBox_3 (lv_at hl 6 rfl) ?_
      refine lv_aload_n hx hb dX11_meetsBox_5 rfl (lv_at hl 0 rfl) ?_
      refine va_get (D := (dC, dI)) (ci := 11) (v := .int (nI Q.length)) (C := RX11) (T := TX11) (N := 52) hx hb hts hiX11 hown hK hP 0 rfl rfl 47 (by decide) (hts (.fieldLink RX11 448 "ScissorsTableModel" "boxMany" "I") (by decide +kernel)) (fun _ h9 => h9) rfl dX11_meetsBox_6 ?_
      refine lv_icmp_ge (tgt := 62) hx hb dX11_meetsBox_9 (by decide) (fun c_1 => ?_) (fun c_1 => ?_)
      · have c_1 : Q.length ≤ i := (nI_leI (a := Q.length) (b := i) (by omega) (by omega)).mp c_1
        refine lv_aload_n hx hb dX11_meetsBox_62 rfl (lv_at hl 0 rfl) ?_
        refine va_get (D := (dC, dI)) (ci := 11) (v := .ref m_boxes) (C := RX11) (T := TX11) (N := 52) hx hb hts hiX11 hown hK hP 0 rfl rfl 42 (by decide) (hts (.fieldLink RX11 78 "ScissorsTableModel" "boxes" "[I") (by decide +kernel)) (fun _ h9 => h9) rfl dX11_meetsBox_63 ?_
        refine lv_iconst (v := 3) hx hb dX11_meetsBox_66 (by decide) ?_
        refine lv_aload_n hx hb dX11_meetsBox_67 rfl (lv_at hl 0 rfl) ?_
        refine va_get (D := (dC, dI)) (ci := 11) (v := .int (nI Q.length)) (C := RX11) (T := TX11) (N := 52) hx hb hts hiX11 hown hK hP 0 rfl rfl 47 (by decide) (hts (.fieldLink RX11 448 "ScissorsTableModel" "boxMany" "I") (by decide +kernel)) (fun _ h9 => h9) rfl dX11_meetsBox_68 ?_
        refine lv_imul hx hb dX11_meetsBox_71 ?_
        refine lv_topi (fun x_2 ex_2 => ?_)
        obtain rfl : x_2 = nI (3 * Q.length) := ex_2.trans (pk_mul 3 Q.length)
        refine lv_iload_n hx hb dX11_meetsBox_72 rfl (lv_at hl 1 rfl) ?_
        refine va_iast hx hb hK hP hD hS 1 1 rfl rfl (vp_in_nI (by omega) (by decide)) dX11_meetsBox_73 (fun H locs hP hD hS => ?_)
        rw [nI_clamp (show 3 * Q.length < 2 ^ 31 by omega)] at hP hD
        have hP : va_P (dC, dI) vwCl [(m0, .inr (11, [.int 0, .ref m_tape, .int 0, .int 0, .int 0, .ref m_read, .int 0, .int 0, .int 0, .ref m_tets, .int 0, .int 0, .int 0, .int 0, .int 0, .int 0, .int 0, .int 0, .ref m_primes, .ref m_often, .ref m_normal, .ref m_termM, .ref m_termP, .ref m_termV, .ref m_sumFrom, .ref m_sumMany, .int 0, .int 0, .int 0, .int 0, .ref m_part, .ref m_fair, .ref m_heap, .ref m_pickTet, .ref m_pickEdge, .ref m_base, .ref m_baseM, .ref m_baseP, .ref m_rowsOf, .int 0, .ref m_grid, .ref m_times, .ref m_boxes, .ref m_cameFrom, .ref m_cameBy, .ref m_steps, .ref m_sides, .int (nI Q.length), .int (-1), .ref m_next, .ref m_cube, .ref m_ways])), (m_boxes, .inl (cI, 3600, (.inl (upd fb (3 * Q.length) (nI u0))))), (m_cameFrom, .inl (cI, 1200, (.inl fc))), (m_cameBy, .inl (cI, 1200, (.inl fd)))] H := hP
        have hD : va_D A [(m0, .inr (11, [.int 0, .ref m_tape, .int 0, .int 0, .int 0, .ref m_read, .int 0, .int 0, .int 0, .ref m_tets, .int 0, .int 0, .int 0, .int 0, .int 0, .int 0, .int 0, .int 0, .ref m_primes, .ref m_often, .ref m_normal, .ref m_termM, .ref m_termP, .ref m_termV, .ref m_sumFrom, .ref m_sumMany, .int 0, .int 0, .int 0, .int 0, .ref m_part, .ref m_fair, .ref m_heap, .ref m_pickTet, .ref m_pickEdge, .ref m_base, .ref m_baseM, .ref m_baseP, .ref m_rowsOf, .int 0, .ref m_grid, .ref m_times, .ref m_boxes, .ref m_cameFrom, .ref m_cameBy, .ref m_steps, .ref m_sides, .int (nI Q.length), .int (-1), .ref m_next, .ref m_cube, .ref m_ways])), (m_boxes, .inl (cI, 3600, (.inl (upd fb (3 * Q.length) (nI u0))))), (m_cameFrom, .inl (cI, 1200, (.inl fc))), (m_cameBy, .inl (cI, 1200, (.inl fd)))] := hD
        refine lv_aload_n hx hb dX11_meetsBox_74 rfl (lv_at hl 0 rfl) ?_
        refine va_get (D := (dC, dI)) (ci := 11) (v := .ref m_boxes) (C := RX11) (T := TX11) (N := 52) hx hb hts hiX11 hown hK hP 0 rfl rfl 42 (by decide) (hts (.fieldLink RX11 78 "ScissorsTableModel" "boxes" "[I") (by decide +kernel)) (fun _ h9 => h9) rfl dX11_meetsBox_75 ?_
        refine lv_iconst (v := 3) hx hb dX11_meetsBox_78 (by decide) ?_
        refine lv_aload_n hx hb dX11_meetsBox_79 rfl (lv_at hl 0 rfl) ?_
        refine va_get (D := (dC, dI)) (ci := 11) (v := .int (nI Q.length)) (C := RX11) (T := TX11) (N := 52) hx hb hts hiX11 hown hK hP 0 rfl rfl 47 (by decide) (hts (.fieldLink RX11 448 "ScissorsTableModel" "boxMany" "I") (by decide +kernel)) (fun _ h9 => h9) rfl dX11_meetsBox_80 ?_
        refine lv_imul hx hb dX11_meetsBox_83 ?_
        refine lv_topi (fun x_3 ex_3 => ?_)
        obtain rfl : x_3 = nI (3 * Q.length) := ex_3.trans (pk_mul 3 Q.length)
        refine lv_iconst (v := 1) hx hb dX11_meetsBox_84 (by decide) ?_
        refine lv_iadd hx hb dX11_meetsBox_85 ?_
        refine lv_topi (fun x_4 ex_4 => ?_)
        obtain rfl : x_4 = nI ((3 * Q.length) + 1) := ex_4.trans (nI_add (3 * Q.length) 1)
        refine lv_iload_n hx hb dX11_meetsBox_86 rfl (lv_at hl 2 rfl) ?_
        refine va_iast hx hb hK hP hD hS 1 1 rfl rfl (vp_in_nI (by omega) (by decide)) dX11_meetsBox_87 (fun H locs hP hD hS => ?_)
        rw [nI_clamp (show (3 * Q.length) + 1 < 2 ^ 31 by omega)] at hP hD
        have hP : va_P (dC, dI) vwCl [(m0, .inr (11, [.int 0, .ref m_tape, .int 0, .int 0, .int 0, .ref m_read, .int 0, .int 0, .int 0, .ref m_tets, .int 0, .int 0, .int 0, .int 0, .int 0, .int 0, .int 0, .int 0, .ref m_primes, .ref m_often, .ref m_normal, .ref m_termM, .ref m_termP, .ref m_termV, .ref m_sumFrom, .ref m_sumMany, .int 0, .int 0, .int 0, .int 0, .ref m_part, .ref m_fair, .ref m_heap, .ref m_pickTet, .ref m_pickEdge, .ref m_base, .ref m_baseM, .ref m_baseP, .ref m_rowsOf, .int 0, .ref m_grid, .ref m_times, .ref m_boxes, .ref m_cameFrom, .ref m_cameBy, .ref m_steps, .ref m_sides, .int (nI Q.length), .int (-1), .ref m_next, .ref m_cube, .ref m_ways])), (m_boxes, .inl (cI, 3600, (.inl (upd (upd fb (3 * Q.length) (nI u0)) ((3 * Q.length) + 1) (nI u1))))), (m_cameFrom, .inl (cI, 1200, (.inl fc))), (m_cameBy, .inl (cI, 1200, (.inl fd)))] H := hP
        have hD : va_D A [(m0, .inr (11, [.int 0, .ref m_tape, .int 0, .int 0, .int 0, .ref m_read, .int 0, .int 0, .int 0, .ref m_tets, .int 0, .int 0, .int 0, .int 0, .int 0, .int 0, .int 0, .int 0, .ref m_primes, .ref m_often, .ref m_normal, .ref m_termM, .ref m_termP, .ref m_termV, .ref m_sumFrom, .ref m_sumMany, .int 0, .int 0, .int 0, .int 0, .ref m_part, .ref m_fair, .ref m_heap, .ref m_pickTet, .ref m_pickEdge, .ref m_base, .ref m_baseM, .ref m_baseP, .ref m_rowsOf, .int 0, .ref m_grid, .ref m_times, .ref m_boxes, .ref m_cameFrom, .ref m_cameBy, .ref m_steps, .ref m_sides, .int (nI Q.length), .int (-1), .ref m_next, .ref m_cube, .ref m_ways])), (m_boxes, .inl (cI, 3600, (.inl (upd (upd fb (3 * Q.length) (nI u0)) ((3 * Q.length) + 1) (nI u1))))), (m_cameFrom, .inl (cI, 1200, (.inl fc))), (m_cameBy, .inl (cI, 1200, (.inl fd)))] := hD
        refine lv_aload_n hx hb dX11_meetsBox_88 rfl (lv_at hl 0 rfl) ?_
        refine va_get (D := (dC, dI)) (ci := 11) (v := .ref m_boxes) (C := RX11) (T := TX11) (N := 52) hx hb hts hiX11 hown hK hP 0 rfl rfl 42 (by decide) (hts (.fieldLink RX11 78 "ScissorsTableModel" "boxes" "[I") (by decide +kernel)) (fun _ h9 => h9) rfl dX11_meetsBox_89 ?_
        refine lv_iconst (v := 3) hx hb dX11_meetsBox_92 (by decide) ?_
        refine lv_aload_n hx hb dX11_meetsBox_93 rfl (lv_at hl 0 rfl) ?_
        refine va_get (D := (dC, dI)) (ci := 11) (v := .int (nI Q.length)) (C := RX11) (T := TX11) (N := 52) hx hb hts hiX11 hown hK hP 0 rfl rfl 47 (by decide) (hts (.fieldLink RX11 448 "ScissorsTableModel" "boxMany" "I") (by decide +kernel)) (fun _ h9 => h9) rfl dX11_meetsBox_94 ?_
        refine lv_imul hx hb dX11_meetsBox_97 ?_
        refine lv_topi (fun x_5 ex_5 => ?_)
        obtain rfl : x_5 = nI (3 * Q.length) := ex_5.trans (pk_mul 3 Q.length)
        refine lv_iconst (v := 2) hx hb dX11_meetsBox_98 (by decide) ?_
        refine lv_iadd hx hb dX11_meetsBox_99 ?_
        refine lv_topi (fun x_6 ex_6 => ?_)
        obtain rfl : x_6 = nI ((3 * Q.length) + 2) := ex_6.trans (nI_add (3 * Q.length) 2)
        refine lv_iload_n hx hb dX11_meetsBox_100 rfl (lv_at hl 3 rfl) ?_
        refine va_iast hx hb hK hP hD hS 1 1 rfl rfl (vp_in_nI (by omega) (by decide)) dX11_meetsBox_101 (fun H locs hP hD hS => ?_)
        rw [nI_clamp (show (3 * Q.length) + 2 < 2 ^ 31 by omega)] at hP hD
        have hP : va_P (dC, dI) vwCl [(m0, .inr (11, [.int 0, .ref m_tape, .int 0, .int 0, .int 0, .ref m_read, .int 0, .int 0, .int 0, .ref m_tets, .int 0, .int 0, .int 0, .int 0, .int 0, .int 0, .int 0, .int 0, .ref m_primes, .ref m_often, .ref m_normal, .ref m_termM, .ref m_termP, .ref m_termV, .ref m_sumFrom, .ref m_sumMany, .int 0, .int 0, .int 0, .int 0, .ref m_part, .ref m_fair, .ref m_heap, .ref m_pickTet, .ref m_pickEdge, .ref m_base, .ref m_baseM, .ref m_baseP, .ref m_rowsOf, .int 0, .ref m_grid, .ref m_times, .ref m_boxes, .ref m_cameFrom, .ref m_cameBy, .ref m_steps, .ref m_sides, .int (nI Q.length), .int (-1), .ref m_next, .ref m_cube, .ref m_ways])), (m_boxes, .inl (cI, 3600, (.inl (upd (upd (upd fb (3 * Q.length) (nI u0)) ((3 * Q.length) + 1) (nI u1)) ((3 * Q.length) + 2) (nI u2))))), (m_cameFrom, .inl (cI, 1200, (.inl fc))), (m_cameBy, .inl (cI, 1200, (.inl fd)))] H := hP
        have hD : va_D A [(m0, .inr (11, [.int 0, .ref m_tape, .int 0, .int 0, .int 0, .ref m_read, .int 0, .int 0, .int 0, .ref m_tets, .int 0, .int 0, .int 0, .int 0, .int 0, .int 0, .int 0, .int 0, .ref m_primes, .ref m_often, .ref m_normal, .ref m_termM, .ref m_termP, .ref m_termV, .ref m_sumFrom, .ref m_sumMany, .int 0, .int 0, .int 0, .int 0, .ref m_part, .ref m_fair, .ref m_heap, .ref m_pickTet, .ref m_pickEdge, .ref m_base, .ref m_baseM, .ref m_baseP, .ref m_rowsOf, .int 0, .ref m_grid, .ref m_times, .ref m_boxes, .ref m_cameFrom, .ref m_cameBy, .ref m_steps, .ref m_sides, .int (nI Q.length), .int (-1), .ref m_next, .ref m_cube, .ref m_ways])), (m_boxes, .inl (cI, 3600, (.inl (upd (upd (upd fb (3 * Q.length) (nI u0)) ((3 * Q.length) + 1) (nI u1)) ((3 * Q.length) + 2) (nI u2))))), (m_cameFrom, .inl (cI, 1200, (.inl fc))), (m_cameBy, .inl (cI, 1200, (.inl fd)))] := hD
        refine lv_aload_n hx hb dX11_meetsBox_102 rfl (lv_at hl 0 rfl) ?_
        refine va_get (D := (dC, dI)) (ci := 11) (v := .ref m_cameFrom) (C := RX11) (T := TX11) (N := 52) hx hb hts hiX11 hown hK hP 0 rfl rfl 43 (by decide) (hts (.fieldLink RX11 81 "ScissorsTableModel" "cameFrom" "[I") (by decide +kernel)) (fun _ h9 => h9) rfl dX11_meetsBox_103 ?_
        refine lv_aload_n hx hb dX11_meetsBox_106 rfl (lv_at hl 0 rfl) ?_
        refine va_get (D := (dC, dI)) (ci := 11) (v := .int (nI Q.length)) (C := RX11) (T := TX11) (N := 52) hx hb hts hiX11 hown hK hP 0 rfl rfl 47 (by decide) (hts (.fieldLink RX11 448 "ScissorsTableModel" "boxMany" "I") (by decide +kernel)) (fun _ h9 => h9) rfl dX11_meetsBox_107 ?_
        refine lv_iload hx hb dX11_meetsBox_110 (lv_at hl 4 rfl) ?_
        refine va_iast hx hb hK hP hD hS 2 1 rfl rfl (vp_in_nI (by omega) (by decide)) dX11_meetsBox_112 (fun H locs hP hD hS => ?_)
        rw [nI_clamp (show Q.length < 2 ^ 31 by omega)] at hP hD
        have hP : va_P (dC, dI) vwCl [(m0, .inr (11, [.int 0, .ref m_tape, .int 0, .int 0, .int 0, .ref m_read, .int 0, .int 0, .int 0, .ref m_tets, .int 0, .int 0, .int 0, .int 0, .int 0, .int 0, .int 0, .int 0, .ref m_primes, .ref m_often, .ref m_normal, .ref m_termM, .ref m_termP, .ref m_termV, .ref m_sumFrom, .ref m_sumMany, .int 0, .int 0, .int 0, .int 0, .ref m_part, .ref m_fair, .ref m_heap, .ref m_pickTet, .ref m_pickEdge, .ref m_base, .ref m_baseM, .ref m_baseP, .ref m_rowsOf, .int 0, .ref m_grid, .ref m_times, .ref m_boxes, .ref m_cameFrom, .ref m_cameBy, .ref m_steps, .ref m_sides, .int (nI Q.length), .int (-1), .ref m_next, .ref m_cube, .ref m_ways])), (m_boxes, .inl (cI, 3600, (.inl (upd (upd (upd fb (3 * Q.length) (nI u0)) ((3 * Q.length) + 1) (nI u1)) ((3 * Q.length) + 2) (nI u2))))), (m_cameFrom, .inl (cI, 1200, (.inl (upd fc Q.length w1)))), (m_cameBy, .inl (cI, 1200, (.inl fd)))] H := hP
        have hD : va_D A [(m0, .inr (11, [.int 0, .ref m_tape, .int 0, .int 0, .int 0, .ref m_read, .int 0, .int 0, .int 0, .ref m_tets, .int 0, .int 0, .int 0, .int 0, .int 0, .int 0, .int 0, .int 0, .ref m_primes, .ref m_often, .ref m_normal, .ref m_termM, .ref m_termP, .ref m_termV, .ref m_sumFrom, .ref m_sumMany, .int 0, .int 0, .int 0, .int 0, .ref m_part, .ref m_fair, .ref m_heap, .ref m_pickTet, .ref m_pickEdge, .ref m_base, .ref m_baseM, .ref m_baseP, .ref m_rowsOf, .int 0, .ref m_grid, .ref m_times, .ref m_boxes, .ref m_cameFrom, .ref m_cameBy, .ref m_steps, .ref m_sides, .int (nI Q.length), .int (-1), .ref m_next, .ref m_cube, .ref m_ways])), (m_boxes, .inl (cI, 3600, (.inl (upd (upd (upd fb (3 * Q.length) (nI u0)) ((3 * Q.length) + 1) (nI u1)) ((3 * Q.length) + 2) (nI u2))))), (m_cameFrom, .inl (cI, 1200, (.inl (upd fc Q.length w1)))), (m_cameBy, .inl (cI, 1200, (.inl fd)))] := hD
        refine lv_aload_n hx hb dX11_meetsBox_113 rfl (lv_at hl 0 rfl) ?_
        refine va_get (D := (dC, dI)) (ci := 11) (v := .ref m_cameBy) (C := RX11) (T := TX11) (N := 52) hx hb hts hiX11 hown hK hP 0 rfl rfl 44 (by decide) (hts (.fieldLink RX11 84 "ScissorsTableModel" "cameBy" "[I") (by decide +kernel)) (fun _ h9 => h9) rfl dX11_meetsBox_114 ?_
        refine lv_aload_n hx hb dX11_meetsBox_117 rfl (lv_at hl 0 rfl) ?_
        refine va_get (D := (dC, dI)) (ci := 11) (v := .int (nI Q.length)) (C := RX11) (T := TX11) (N := 52) hx hb hts hiX11 hown hK hP 0 rfl rfl 47 (by decide) (hts (.fieldLink RX11 448 "ScissorsTableModel" "boxMany" "I") (by decide +kernel)) (fun _ h9 => h9) rfl dX11_meetsBox_118 ?_
        refine lv_iload hx hb dX11_meetsBox_121 (lv_at hl 5 rfl) ?_
        refine va_iast hx hb hK hP hD hS 3 1 rfl rfl (vp_in_nI (by omega) (by decide)) dX11_meetsBox_123 (fun H locs hP hD hS => ?_)
        rw [nI_clamp (show Q.length < 2 ^ 31 by omega)] at hP hD
        have hP : va_P (dC, dI) vwCl [(m0, .inr (11, [.int 0, .ref m_tape, .int 0, .int 0, .int 0, .ref m_read, .int 0, .int 0, .int 0, .ref m_tets, .int 0, .int 0, .int 0, .int 0, .int 0, .int 0, .int 0, .int 0, .ref m_primes, .ref m_often, .ref m_normal, .ref m_termM, .ref m_termP, .ref m_termV, .ref m_sumFrom, .ref m_sumMany, .int 0, .int 0, .int 0, .int 0, .ref m_part, .ref m_fair, .ref m_heap, .ref m_pickTet, .ref m_pickEdge, .ref m_base, .ref m_baseM, .ref m_baseP, .ref m_rowsOf, .int 0, .ref m_grid, .ref m_times, .ref m_boxes, .ref m_cameFrom, .ref m_cameBy, .ref m_steps, .ref m_sides, .int (nI Q.length), .int (-1), .ref m_next, .ref m_cube, .ref m_ways])), (m_boxes, .inl (cI, 3600, (.inl (upd (upd (upd fb (3 * Q.length) (nI u0)) ((3 * Q.length) + 1) (nI u1)) ((3 * Q.length) + 2) (nI u2))))), (m_cameFrom, .inl (cI, 1200, (.inl (upd fc Q.length w1)))), (m_cameBy, .inl (cI, 1200, (.inl (upd fd Q.length w2))))] H := hP
        have hD : va_D A [(m0, .inr (11, [.int 0, .ref m_tape, .int 0, .int 0, .int 0, .ref m_read, .int 0, .int 0, .int 0, .ref m_tets, .int 0, .int 0, .int 0, .int 0, .int 0, .int 0, .int 0, .int 0, .ref m_primes, .ref m_often, .ref m_normal, .ref m_termM, .ref m_termP, .ref m_termV, .ref m_sumFrom, .ref m_sumMany, .int 0, .int 0, .int 0, .int 0, .ref m_part, .ref m_fair, .ref m_heap, .ref m_pickTet, .ref m_pickEdge, .ref m_base, .ref m_baseM, .ref m_baseP, .ref m_rowsOf, .int 0, .ref m_grid, .ref m_times, .ref m_boxes, .ref m_cameFrom, .ref m_cameBy, .ref m_steps, .ref m_sides, .int (nI Q.length), .int (-1), .ref m_next, .ref m_cube, .ref m_ways])), (m_boxes, .inl (cI, 3600, (.inl (upd (upd (upd fb (3 * Q.length) (nI u0)) ((3 * Q.length) + 1) (nI u1)) ((3 * Q.length) + 2) (nI u2))))), (m_cameFrom, .inl (cI, 1200, (.inl (upd fc Q.length w1)))), (m_cameBy, .inl (cI, 1200, (.inl (upd fd Q.length w2))))] := hD
        refine lv_aload_n hx hb dX11_meetsBox_124 rfl (lv_at hl 0 rfl) ?_
        refine lv_dup hx hb dX11_meetsBox_125 rfl ?_
        refine va_get (D := (dC, dI)) (ci := 11) (v := .int (nI Q.length)) (C := RX11) (T := TX11) (N := 52) hx hb hts hiX11 hown hK hP 0 rfl rfl 47 (by decide) (hts (.fieldLink RX11 448 "ScissorsTableModel" "boxMany" "I") (by decide +kernel)) (fun _ h9 => h9) rfl dX11_meetsBox_126 ?_
        refine lv_iconst (v := 1) hx hb dX11_meetsBox_129 (by decide) ?_
        refine lv_iadd hx hb dX11_meetsBox_130 ?_
        refine lv_topi (fun x_7 ex_7 => ?_)
        obtain rfl : x_7 = nI (Q.length + 1) := ex_7.trans (nI_add Q.length 1)
        rw [show nI (Q.length + 1) = nI (Q ++ [(bx_mk u0 u1 u2, k, d)]).length from congrArg nI nk_len]
        refine va_put (D := (dC, dI)) (ci := 11) (v := .int (nI (Q ++ [(bx_mk u0 u1 u2, k, d)]).length)) (ty := .int) (C := RX11) (T := TX11) (N := 52) hx hb hts hiX11 tyX11 tyX11_ok nmX11 hown hK hP hD hS 0 rfl rfl 47 (by decide) (hts (.fieldLink RX11 448 "ScissorsTableModel" "boxMany" "I") (by decide +kernel)) (fun _ h9 => h9) rfl (by decide +kernel) rfl rfl (Nat.le_of_ble_eq_true rfl) dX11_meetsBox_131 (fun H locs hP hD hS => ?_)
        have hP : va_P (dC, dI) vwCl [(m0, .inr (11, [.int 0, .ref m_tape, .int 0, .int 0, .int 0, .ref m_read, .int 0, .int 0, .int 0, .ref m_tets, .int 0, .int 0, .int 0, .int 0, .int 0, .int 0, .int 0, .int 0, .ref m_primes, .ref m_often, .ref m_normal, .ref m_termM, .ref m_termP, .ref m_termV, .ref m_sumFrom, .ref m_sumMany, .int 0, .int 0, .int 0, .int 0, .ref m_part, .ref m_fair, .ref m_heap, .ref m_pickTet, .ref m_pickEdge, .ref m_base, .ref m_baseM, .ref m_baseP, .ref m_rowsOf, .int 0, .ref m_grid, .ref m_times, .ref m_boxes, .ref m_cameFrom, .ref m_cameBy, .ref m_steps, .ref m_sides, .int (nI (Q ++ [(bx_mk u0 u1 u2, k, d)]).length), .int (-1), .ref m_next, .ref m_cube, .ref m_ways])), (m_boxes, .inl (cI, 3600, (.inl (upd (upd (upd fb (3 * Q.length) (nI u0)) ((3 * Q.length) + 1) (nI u1)) ((3 * Q.length) + 2) (nI u2))))), (m_cameFrom, .inl (cI, 1200, (.inl (upd fc Q.length w1)))), (m_cameBy, .inl (cI, 1200, (.inl (upd fd Q.length w2))))] H := hP
        have hD : va_D A [(m0, .inr (11, [.int 0, .ref m_tape, .int 0, .int 0, .int 0, .ref m_read, .int 0, .int 0, .int 0, .ref m_tets, .int 0, .int 0, .int 0, .int 0, .int 0, .int 0, .int 0, .int 0, .ref m_primes, .ref m_often, .ref m_normal, .ref m_termM, .ref m_termP, .ref m_termV, .ref m_sumFrom, .ref m_sumMany, .int 0, .int 0, .int 0, .int 0, .ref m_part, .ref m_fair, .ref m_heap, .ref m_pickTet, .ref m_pickEdge, .ref m_base, .ref m_baseM, .ref m_baseP, .ref m_rowsOf, .int 0, .ref m_grid, .ref m_times, .ref m_boxes, .ref m_cameFrom, .ref m_cameBy, .ref m_steps, .ref m_sides, .int (nI (Q ++ [(bx_mk u0 u1 u2, k, d)]).length), .int (-1), .ref m_next, .ref m_cube, .ref m_ways])), (m_boxes, .inl (cI, 3600, (.inl (upd (upd (upd fb (3 * Q.length) (nI u0)) ((3 * Q.length) + 1) (nI u1)) ((3 * Q.length) + 2) (nI u2))))), (m_cameFrom, .inl (cI, 1200, (.inl (upd fc Q.length w1)))), (m_cameBy, .inl (cI, 1200, (.inl (upd fd Q.length w2))))] := hD
        have hh : q_has Q (bx_mk u0 u1 u2) = false := by
          cases h9 : q_has Q (bx_mk u0 u1 u2) with
          | false => rfl
          | true =>
            obtain ⟨t9, e9, z9, y9⟩ := q_has_iff.mp h9
            have := q_lt z9
            exact absurd y9 (hno t9 e9 (by omega) z9)
        have hQe := (q_see_no (k := k) (d := d) hh).symm
        have hP9 := hP.sub (ws' := [(m0, .inr (11, [.int 0, .ref m_tape, .int 0, .int 0, .int 0, .ref m_read, .int 0, .int 0, .int 0, .ref m_tets, .int 0, .int 0, .int 0, .int 0, .int 0, .int 0, .int 0, .int 0, .ref m_primes, .ref m_often, .ref m_normal, .ref m_termM, .ref m_termP, .ref m_termV, .ref m_sumFrom, .ref m_sumMany, .int 0, .int 0, .int 0, .int 0, .ref m_part, .ref m_fair, .ref m_heap, .ref m_pickTet, .ref m_pickEdge, .ref m_base, .ref m_baseM, .ref m_baseP, .ref m_rowsOf, .int 0, .ref m_grid, .ref m_times, .ref m_boxes, .ref m_cameFrom, .ref m_cameBy, .ref m_steps, .ref m_sides, .int (nI (Q ++ [(bx_mk u0 u1 u2, k, d)]).length), .int (-1), .ref m_next, .ref m_cube, .ref m_ways])), (m_boxes, .inl (cI, 3600, (.inl (upd (upd (upd fb (3 * Q.length) (nI u0)) ((3 * Q.length) + 1) (nI u1)) ((3 * Q.length) + 2) (nI u2))))), (m_cameFrom, .inl (cI, 1200, (.inl (upd fc Q.length w1)))), (m_cameBy, .inl (cI, 1200, (.inl (upd fd Q.length w2))))]) [0, 1, 2, 3] rfl
        have hD9 := hD.sub (ws' := [(m0, .inr (11, [.int 0, .ref m_tape, .int 0, .int 0, .int 0, .ref m_read, .int 0, .int 0, .int 0, .ref m_tets, .int 0, .int 0, .int 0, .int 0, .int 0, .int 0, .int 0, .int 0, .ref m_primes, .ref m_often, .ref m_normal, .ref m_termM, .ref m_termP, .ref m_termV, .ref m_sumFrom, .ref m_sumMany, .int 0, .int 0, .int 0, .int 0, .ref m_part, .ref m_fair, .ref m_heap, .ref m_pickTet, .ref m_pickEdge, .ref m_base, .ref m_baseM, .ref m_baseP, .ref m_rowsOf, .int 0, .ref m_grid, .ref m_times, .ref m_boxes, .ref m_cameFrom, .ref m_cameBy, .ref m_steps, .ref m_sides, .int (nI (Q ++ [(bx_mk u0 u1 u2, k, d)]).length), .int (-1), .ref m_next, .ref m_cube, .ref m_ways])), (m_boxes, .inl (cI, 3600, (.inl (upd (upd (upd fb (3 * Q.length) (nI u0)) ((3 * Q.length) + 1) (nI u1)) ((3 * Q.length) + 2) (nI u2))))), (m_cameFrom, .inl (cI, 1200, (.inl (upd fc Q.length w1)))), (m_cameBy, .inl (cI, 1200, (.inl (upd fd Q.length w2))))]) [0, 1, 2, 3] (by decide) rfl
        rw [hQe] at hP9 hD9
        exact W.vret hx hb hr (fun t ht hW => ⟨⟨(), rfl, trivial, (upd (upd (upd fb (3 * Q.length) (nI u0)) ((3 * Q.length) + 1) (nI u1)) ((3 * Q.length) + 2) (nI u2)), (upd fc Q.length w1), (upd fd Q.length w2), (by rw [← hQe]; exact RR_add hR (by omega) (by omega) hw), by rw [ht]; exact hP9, va_K.moved hW.alike hK, hD9⟩, hS.F ht⟩) hS.2.2 dX11_meetsBox_134
      · have c_1 : ¬ Q.length ≤ i := fun q9 => c_1 ((nI_leI (a := Q.length) (b := i) (by omega) (by omega)).mpr q9)
        obtain ⟨⟨bb, pk, d9⟩, hee⟩ := q_some (show i < Q.length by omega)
        have hbb : bx_in V bb := hI i _ hee
        have hbb2 := hbb
        obtain ⟨t0, t1, t2, ht0, ht1, ht2, htV, rfl⟩ := hbb2
        refine lv_aload_n hx hb dX11_meetsBox_12 rfl (lv_at hl 0 rfl) ?_
        refine va_get (D := (dC, dI)) (ci := 11) (v := .ref m_boxes) (C := RX11) (T := TX11) (N := 52) hx hb hts hiX11 hown hK hP 0 rfl rfl 42 (by decide) (hts (.fieldLink RX11 78 "ScissorsTableModel" "boxes" "[I") (by decide +kernel)) (fun _ h9 => h9) rfl dX11_meetsBox_13 ?_
        refine lv_iconst (v := 3) hx hb dX11_meetsBox_16 (by decide) ?_
        refine lv_iload hx hb dX11_meetsBox_17 (lv_at hl 6 rfl) ?_
        refine lv_imul hx hb dX11_meetsBox_19 ?_
        refine lv_topi (fun x_8 ex_8 => ?_)
        obtain rfl : x_8 = nI (3 * i) := ex_8.trans (pk_mul 3 i)
        refine va_iald hx hb hK hP 1 1 rfl rfl (vp_in_nI (by omega) (by decide)) dX11_meetsBox_20 ?_
        refine lv_topi (fun x_9 ex_9 => ?_)
        rw [nI_clamp (show 3 * i < 2 ^ 31 by omega)] at ex_9
        obtain rfl : x_9 = nI t0 := ex_9.trans ((hR i _ hee).1.trans (congrArg nI (bx_x (by omega) (by omega))))
        refine lv_iload_n hx hb dX11_meetsBox_21 rfl (lv_at hl 1 rfl) ?_
        refine lv_icmp_ne (tgt := 56) hx hb dX11_meetsBox_22 (by decide) (fun c_10 => ?_) (fun c_10 => ?_)
        · have c_10 : ¬ t0 = u0 := fun q9 => c_10 ((nI_eq (a := t0) (b := u0) (by omega) (by omega)).mpr q9)
          have hne : ¬ bx_mk t0 t1 t2 / 32 = bx_mk u0 u1 u2 / 32 := fun q9 => c_10 (bx_ne hbb hbi (by omega) q9).1
          obtain ⟨x_11, ex_11⟩ : ∃ y : Int32, y = (nI i) + 1 := ⟨_, rfl⟩
          refine lv_iinc (v := x_11) (lv' := [(6, .int x_11), (0, .ref m0), (1, .int (nI u0)), (2, .int (nI u1)), (3, .int (nI u2)), (4, .int w1), (5, .int w2)]) hx hb dX11_meetsBox_56 hl (k := 6) rfl (by rw [ex_11]; rfl) (by decide) rfl (fun ls hl => ?_)
          obtain rfl : x_11 = nI (i + 1) := ex_11.trans (nI_1 i)
          have hl : lv_has ls 7 [(6, .int (nI (i + 1))), (0, .ref m0), (1, .int (nI u0)), (2, .int (nI u1)), (3, .int (nI u2)), (4, .int w1), (5, .int w2)] := hl
          refine lv_goto (tgt := 3) hx hb dX11_meetsBox_59 (by decide) ?_
          exact out _ _ _ (ih (i + 1) (by omega) (by omega) (fun t9 e9 h9 g9 => by
            rcases (show t9 < i ∨ t9 = i by omega) with z9 | z9
            · exact hno t9 e9 z9 g9
            · subst z9
              rw [hee] at g9
              cases g9
              exact hne) _ _ (hP.sub [0, 1, 2, 3] rfl) (hD.sub [0, 1, 2, 3] (by decide) rfl) hS ls (lv_sub hl [1, 2, 3, 4, 5, 6, 0] rfl))
        · have c_10 : t0 = u0 := (nI_eq (a := t0) (b := u0) (by omega) (by omega)).mp c_10
          refine lv_aload_n hx hb dX11_meetsBox_25 rfl (lv_at hl 0 rfl) ?_
          refine va_get (D := (dC, dI)) (ci := 11) (v := .ref m_boxes) (C := RX11) (T := TX11) (N := 52) hx hb hts hiX11 hown hK hP 0 rfl rfl 42 (by decide) (hts (.fieldLink RX11 78 "ScissorsTableModel" "boxes" "[I") (by decide +kernel)) (fun _ h9 => h9) rfl dX11_meetsBox_26 ?_
          refine lv_iconst (v := 3) hx hb dX11_meetsBox_29 (by decide) ?_
          refine lv_iload hx hb dX11_meetsBox_30 (lv_at hl 6 rfl) ?_
          refine lv_imul hx hb dX11_meetsBox_32 ?_
          refine lv_topi (fun x_12 ex_12 => ?_)
          obtain rfl : x_12 = nI (3 * i) := ex_12.trans (pk_mul 3 i)
          refine lv_iconst (v := 1) hx hb dX11_meetsBox_33 (by decide) ?_
          refine lv_iadd hx hb dX11_meetsBox_34 ?_
          refine lv_topi (fun x_13 ex_13 => ?_)
          obtain rfl : x_13 = nI ((3 * i) + 1) := ex_13.trans (nI_add (3 * i) 1)
          refine va_iald hx hb hK hP 1 1 rfl rfl (vp_in_nI (by omega) (by decide)) dX11_meetsBox_35 ?_
          refine lv_topi (fun x_14 ex_14 => ?_)
          rw [nI_clamp (show (3 * i) + 1 < 2 ^ 31 by omega)] at ex_14
          obtain rfl : x_14 = nI t1 := ex_14.trans ((hR i _ hee).2.1.trans (congrArg nI (bx_y (by omega) (by omega))))
          refine lv_iload_n hx hb dX11_meetsBox_36 rfl (lv_at hl 2 rfl) ?_
          refine lv_icmp_ne (tgt := 56) hx hb dX11_meetsBox_37 (by decide) (fun c_15 => ?_) (fun c_15 => ?_)
          · have c_15 : ¬ t1 = u1 := fun q9 => c_15 ((nI_eq (a := t1) (b := u1) (by omega) (by omega)).mpr q9)
            have hne : ¬ bx_mk t0 t1 t2 / 32 = bx_mk u0 u1 u2 / 32 := fun q9 => c_15 (bx_ne hbb hbi (by omega) q9).2.1
            obtain ⟨x_16, ex_16⟩ : ∃ y : Int32, y = (nI i) + 1 := ⟨_, rfl⟩
            refine lv_iinc (v := x_16) (lv' := [(6, .int x_16), (0, .ref m0), (1, .int (nI u0)), (2, .int (nI u1)), (3, .int (nI u2)), (4, .int w1), (5, .int w2)]) hx hb dX11_meetsBox_56 hl (k := 6) rfl (by rw [ex_16]; rfl) (by decide) rfl (fun ls hl => ?_)
            obtain rfl : x_16 = nI (i + 1) := ex_16.trans (nI_1 i)
            have hl : lv_has ls 7 [(6, .int (nI (i + 1))), (0, .ref m0), (1, .int (nI u0)), (2, .int (nI u1)), (3, .int (nI u2)), (4, .int w1), (5, .int w2)] := hl
            refine lv_goto (tgt := 3) hx hb dX11_meetsBox_59 (by decide) ?_
            exact out _ _ _ (ih (i + 1) (by omega) (by omega) (fun t9 e9 h9 g9 => by
              rcases (show t9 < i ∨ t9 = i by omega) with z9 | z9
              · exact hno t9 e9 z9 g9
              · subst z9
                rw [hee] at g9
                cases g9
                exact hne) _ _ (hP.sub [0, 1, 2, 3] rfl) (hD.sub [0, 1, 2, 3] (by decide) rfl) hS ls (lv_sub hl [1, 2, 3, 4, 5, 6, 0] rfl))
          · have c_15 : t1 = u1 := (nI_eq (a := t1) (b := u1) (by omega) (by omega)).mp c_15
            refine lv_aload_n hx hb dX11_meetsBox_40 rfl (lv_at hl 0 rfl) ?_
            refine va_get (D := (dC, dI)) (ci := 11) (v := .ref m_boxes) (C := RX11) (T := TX11) (N := 52) hx hb hts hiX11 hown hK hP 0 rfl rfl 42 (by decide) (hts (.fieldLink RX11 78 "ScissorsTableModel" "boxes" "[I") (by decide +kernel)) (fun _ h9 => h9) rfl dX11_meetsBox_41 ?_
            refine lv_iconst (v := 3) hx hb dX11_meetsBox_44 (by decide) ?_
            refine lv_iload hx hb dX11_meetsBox_45 (lv_at hl 6 rfl) ?_
            refine lv_imul hx hb dX11_meetsBox_47 ?_
            refine lv_topi (fun x_17 ex_17 => ?_)
            obtain rfl : x_17 = nI (3 * i) := ex_17.trans (pk_mul 3 i)
            refine lv_iconst (v := 2) hx hb dX11_meetsBox_48 (by decide) ?_
            refine lv_iadd hx hb dX11_meetsBox_49 ?_
            refine lv_topi (fun x_18 ex_18 => ?_)
            obtain rfl : x_18 = nI ((3 * i) + 2) := ex_18.trans (nI_add (3 * i) 2)
            refine va_iald hx hb hK hP 1 1 rfl rfl (vp_in_nI (by omega) (by decide)) dX11_meetsBox_50 ?_
            refine lv_topi (fun x_19 ex_19 => ?_)
            rw [nI_clamp (show (3 * i) + 2 < 2 ^ 31 by omega)] at ex_19
            obtain rfl : x_19 = nI t2 := ex_19.trans ((hR i _ hee).2.2.1.trans (congrArg nI (bx_z (by omega))))
            refine lv_iload_n hx hb dX11_meetsBox_51 rfl (lv_at hl 3 rfl) ?_
            refine lv_icmp_ne (tgt := 56) hx hb dX11_meetsBox_52 (by decide) (fun c_20 => ?_) (fun c_20 => ?_)
            · have c_20 : ¬ t2 = u2 := fun q9 => c_20 ((nI_eq (a := t2) (b := u2) (by omega) (by omega)).mpr q9)
              have hne : ¬ bx_mk t0 t1 t2 / 32 = bx_mk u0 u1 u2 / 32 := fun q9 => c_20 (bx_ne hbb hbi (by omega) q9).2.2
              obtain ⟨x_21, ex_21⟩ : ∃ y : Int32, y = (nI i) + 1 := ⟨_, rfl⟩
              refine lv_iinc (v := x_21) (lv' := [(6, .int x_21), (0, .ref m0), (1, .int (nI u0)), (2, .int (nI u1)), (3, .int (nI u2)), (4, .int w1), (5, .int w2)]) hx hb dX11_meetsBox_56 hl (k := 6) rfl (by rw [ex_21]; rfl) (by decide) rfl (fun ls hl => ?_)
              obtain rfl : x_21 = nI (i + 1) := ex_21.trans (nI_1 i)
              have hl : lv_has ls 7 [(6, .int (nI (i + 1))), (0, .ref m0), (1, .int (nI u0)), (2, .int (nI u1)), (3, .int (nI u2)), (4, .int w1), (5, .int w2)] := hl
              refine lv_goto (tgt := 3) hx hb dX11_meetsBox_59 (by decide) ?_
              exact out _ _ _ (ih (i + 1) (by omega) (by omega) (fun t9 e9 h9 g9 => by
                rcases (show t9 < i ∨ t9 = i by omega) with z9 | z9
                · exact hno t9 e9 z9 g9
                · subst z9
                  rw [hee] at g9
                  cases g9
                  exact hne) _ _ (hP.sub [0, 1, 2, 3] rfl) (hD.sub [0, 1, 2, 3] (by decide) rfl) hS ls (lv_sub hl [1, 2, 3, 4, 5, 6, 0] rfl))
            · have c_20 : t2 = u2 := (nI_eq (a := t2) (b := u2) (by omega) (by omega)).mp c_20
              have hh : q_has Q (bx_mk u0 u1 u2) = true := q_has_iff.mpr ⟨i, _, hee, by show bx_mk t0 t1 t2 / 32 = _; rw [c_10, c_15, c_20]⟩
              have hQe := (q_see_yes (k := k) (d := d) hh).symm
              have hP9 := hP.sub (ws' := [(m0, .inr (11, [.int 0, .ref m_tape, .int 0, .int 0, .int 0, .ref m_read, .int 0, .int 0, .int 0, .ref m_tets, .int 0, .int 0, .int 0, .int 0, .int 0, .int 0, .int 0, .int 0, .ref m_primes, .ref m_often, .ref m_normal, .ref m_termM, .ref m_termP, .ref m_termV, .ref m_sumFrom, .ref m_sumMany, .int 0, .int 0, .int 0, .int 0, .ref m_part, .ref m_fair, .ref m_heap, .ref m_pickTet, .ref m_pickEdge, .ref m_base, .ref m_baseM, .ref m_baseP, .ref m_rowsOf, .int 0, .ref m_grid, .ref m_times, .ref m_boxes, .ref m_cameFrom, .ref m_cameBy, .ref m_steps, .ref m_sides, .int (nI Q.length), .int (-1), .ref m_next, .ref m_cube, .ref m_ways])), (m_boxes, .inl (cI, 3600, (.inl fb))), (m_cameFrom, .inl (cI, 1200, (.inl fc))), (m_cameBy, .inl (cI, 1200, (.inl fd)))]) [0, 1, 2, 3] rfl
              have hD9 := hD.sub (ws' := [(m0, .inr (11, [.int 0, .ref m_tape, .int 0, .int 0, .int 0, .ref m_read, .int 0, .int 0, .int 0, .ref m_tets, .int 0, .int 0, .int 0, .int 0, .int 0, .int 0, .int 0, .int 0, .ref m_primes, .ref m_often, .ref m_normal, .ref m_termM, .ref m_termP, .ref m_termV, .ref m_sumFrom, .ref m_sumMany, .int 0, .int 0, .int 0, .int 0, .ref m_part, .ref m_fair, .ref m_heap, .ref m_pickTet, .ref m_pickEdge, .ref m_base, .ref m_baseM, .ref m_baseP, .ref m_rowsOf, .int 0, .ref m_grid, .ref m_times, .ref m_boxes, .ref m_cameFrom, .ref m_cameBy, .ref m_steps, .ref m_sides, .int (nI Q.length), .int (-1), .ref m_next, .ref m_cube, .ref m_ways])), (m_boxes, .inl (cI, 3600, (.inl fb))), (m_cameFrom, .inl (cI, 1200, (.inl fc))), (m_cameBy, .inl (cI, 1200, (.inl fd)))]) [0, 1, 2, 3] (by decide) rfl
              rw [hQe] at hP9 hD9
              exact W.vret hx hb hr (fun t ht hW => ⟨⟨(), rfl, trivial, fb, fc, fd, (by rw [← hQe]; exact hR), by rw [ht]; exact hP9, va_K.moved hW.alike hK, hD9⟩, hS.F ht⟩) hS.2.2 dX11_meetsBox_55
  exact loop (Q.length + 1) 0 (by omega) (by omega) (fun t e h _ => absurd h (by omega)) _ _ (hP.sub [0, 1, 2, 3] rfl) (hD.sub [0, 1, 2, 3] (by decide) rfl) hS ls (lv_sub hl [1, 2, 3, 4, 5, 6, 0] rfl)
