set_option maxRecDepth 20000 in
theorem ggX11_goesFrom_X11_goes_ : GoodIn wsX11_goesFrom wsX11_goes_ := goodIn_r _ [7, 1, 15, 16, 17, 18, 19, 20, 21, 22, 23, 24, 25, 26, 27, 28, 29, 30, 31, 32, 33, 34, 35, 36, 37, 38, 39, 40, 41, 42, 43, 44, 45, 46, 47, 48, 49, 50, 51, 52, 53, 54, 55, 56, 57, 58, 59, 60, 61, 62, 63, 64, 65, 66] (by decide +kernel) (by decide +kernel)
set_option maxRecDepth 20000 in
theorem gX11_goesFrom_X11_goes_ : GoodIn wsX11_goesFrom (wsV RX11 451 RX11 yX11_goes_ wsX11_goes_) := goodIn_app (goodIn_of _ (by decide +kernel)) ggX11_goesFrom_X11_goes_
set_option maxRecDepth 20000 in
theorem ggX11_goesFrom_X11_meetsBox : GoodIn wsX11_goesFrom wsX11_meetsBox := goodIn_r _ [11, 12, 2, 13, 14, 15, 16, 17, 18, 19, 20, 21, 22, 23, 24, 25, 26, 27, 28, 29, 30, 31, 32, 33, 34, 35, 36, 37, 38, 39, 40, 41, 42, 43, 44, 45, 46, 47, 48, 49, 50, 51, 52, 53, 54, 55, 56, 57, 58, 59, 60, 61, 62, 63, 64, 65, 66] (by decide +kernel) (by decide +kernel)
set_option maxRecDepth 20000 in
theorem gX11_goesFrom_X11_meetsBox : GoodIn wsX11_goesFrom (wsV RX11 454 RX11 yX11_meetsBox wsX11_meetsBox) := goodIn_app (goodIn_of _ (by decide +kernel)) ggX11_goesFrom_X11_meetsBox
theorem dX11_goesFrom_0 : decode cX11_goesFrom 0 = .ok (.iconst 0, 1) := by decide +kernel
theorem dX11_goesFrom_1 : decode cX11_goesFrom 1 = .ok (.istore_n 2, 1) := by decide +kernel
theorem dX11_goesFrom_2 : decode cX11_goesFrom 2 = .ok (.iload_n 2, 1) := by decide +kernel
theorem dX11_goesFrom_3 : decode cX11_goesFrom 3 = .ok (.iconst 3, 1) := by decide +kernel
theorem dX11_goesFrom_4 : decode cX11_goesFrom 4 = .ok (.if_icmp .ge 124, 3) := by decide +kernel
theorem dX11_goesFrom_7 : decode cX11_goesFrom 7 = .ok (.iconst 0, 1) := by decide +kernel
theorem dX11_goesFrom_8 : decode cX11_goesFrom 8 = .ok (.istore_n 3, 1) := by decide +kernel
theorem dX11_goesFrom_9 : decode cX11_goesFrom 9 = .ok (.iload_n 3, 1) := by decide +kernel
theorem dX11_goesFrom_10 : decode cX11_goesFrom 10 = .ok (.iconst 3, 1) := by decide +kernel
theorem dX11_goesFrom_11 : decode cX11_goesFrom 11 = .ok (.if_icmp .ge 111, 3) := by decide +kernel
theorem dX11_goesFrom_14 : decode cX11_goesFrom 14 = .ok (.iconst 2, 1) := by decide +kernel
theorem dX11_goesFrom_15 : decode cX11_goesFrom 15 = .ok (.istore 4, 2) := by decide +kernel
theorem dX11_goesFrom_17 : decode cX11_goesFrom 17 = .ok (.iload 4, 2) := by decide +kernel
theorem dX11_goesFrom_19 : decode cX11_goesFrom 19 = .ok (.bipush 24, 2) := by decide +kernel
theorem dX11_goesFrom_21 : decode cX11_goesFrom 21 = .ok (.if_icmp .gt 95, 3) := by decide +kernel
theorem dX11_goesFrom_24 : decode cX11_goesFrom 24 = .ok (.iload_n 2, 1) := by decide +kernel
theorem dX11_goesFrom_25 : decode cX11_goesFrom 25 = .ok (.iload_n 3, 1) := by decide +kernel
theorem dX11_goesFrom_26 : decode cX11_goesFrom 26 = .ok (.if_icmp .eq 90, 3) := by decide +kernel
theorem dX11_goesFrom_29 : decode cX11_goesFrom 29 = .ok (.iconst 0, 1) := by decide +kernel
theorem dX11_goesFrom_30 : decode cX11_goesFrom 30 = .ok (.istore 5, 2) := by decide +kernel
theorem dX11_goesFrom_32 : decode cX11_goesFrom 32 = .ok (.iload 5, 2) := by decide +kernel
theorem dX11_goesFrom_34 : decode cX11_goesFrom 34 = .ok (.iconst 3, 1) := by decide +kernel
theorem dX11_goesFrom_35 : decode cX11_goesFrom 35 = .ok (.if_icmp .ge 27, 3) := by decide +kernel
theorem dX11_goesFrom_38 : decode cX11_goesFrom 38 = .ok (.aload_n 0, 1) := by decide +kernel
theorem dX11_goesFrom_39 : decode cX11_goesFrom 39 = .ok (.getfield 97, 3) := by decide +kernel
theorem dX11_goesFrom_42 : decode cX11_goesFrom 42 = .ok (.iload 5, 2) := by decide +kernel
theorem dX11_goesFrom_44 : decode cX11_goesFrom 44 = .ok (.aload_n 0, 1) := by decide +kernel
theorem dX11_goesFrom_45 : decode cX11_goesFrom 45 = .ok (.getfield 78, 3) := by decide +kernel
theorem dX11_goesFrom_48 : decode cX11_goesFrom 48 = .ok (.iconst 3, 1) := by decide +kernel
theorem dX11_goesFrom_49 : decode cX11_goesFrom 49 = .ok (.iload_n 1, 1) := by decide +kernel
theorem dX11_goesFrom_50 : decode cX11_goesFrom 50 = .ok (.imul, 1) := by decide +kernel
theorem dX11_goesFrom_51 : decode cX11_goesFrom 51 = .ok (.iload 5, 2) := by decide +kernel
theorem dX11_goesFrom_53 : decode cX11_goesFrom 53 = .ok (.iadd, 1) := by decide +kernel
theorem dX11_goesFrom_54 : decode cX11_goesFrom 54 = .ok (.iaload, 1) := by decide +kernel
theorem dX11_goesFrom_55 : decode cX11_goesFrom 55 = .ok (.iastore, 1) := by decide +kernel
theorem dX11_goesFrom_56 : decode cX11_goesFrom 56 = .ok (.iinc 5 1, 3) := by decide +kernel
theorem dX11_goesFrom_59 : decode cX11_goesFrom 59 = .ok (.goto (-27), 3) := by decide +kernel
theorem dX11_goesFrom_62 : decode cX11_goesFrom 62 = .ok (.aload_n 0, 1) := by decide +kernel
theorem dX11_goesFrom_63 : decode cX11_goesFrom 63 = .ok (.iload_n 2, 1) := by decide +kernel
theorem dX11_goesFrom_64 : decode cX11_goesFrom 64 = .ok (.iload_n 3, 1) := by decide +kernel
theorem dX11_goesFrom_65 : decode cX11_goesFrom 65 = .ok (.iload 4, 2) := by decide +kernel
theorem dX11_goesFrom_67 : decode cX11_goesFrom 67 = .ok (.invokevirtual 451, 3) := by decide +kernel
theorem dX11_goesFrom_70 : decode cX11_goesFrom 70 = .ok (.ifCond .eq 40, 3) := by decide +kernel
theorem dX11_goesFrom_73 : decode cX11_goesFrom 73 = .ok (.aload_n 0, 1) := by decide +kernel
theorem dX11_goesFrom_74 : decode cX11_goesFrom 74 = .ok (.aload_n 0, 1) := by decide +kernel
theorem dX11_goesFrom_75 : decode cX11_goesFrom 75 = .ok (.getfield 97, 3) := by decide +kernel
theorem dX11_goesFrom_78 : decode cX11_goesFrom 78 = .ok (.iconst 0, 1) := by decide +kernel
theorem dX11_goesFrom_79 : decode cX11_goesFrom 79 = .ok (.iaload, 1) := by decide +kernel
theorem dX11_goesFrom_80 : decode cX11_goesFrom 80 = .ok (.aload_n 0, 1) := by decide +kernel
theorem dX11_goesFrom_81 : decode cX11_goesFrom 81 = .ok (.getfield 97, 3) := by decide +kernel
theorem dX11_goesFrom_84 : decode cX11_goesFrom 84 = .ok (.iconst 1, 1) := by decide +kernel
theorem dX11_goesFrom_85 : decode cX11_goesFrom 85 = .ok (.iaload, 1) := by decide +kernel
theorem dX11_goesFrom_86 : decode cX11_goesFrom 86 = .ok (.aload_n 0, 1) := by decide +kernel
theorem dX11_goesFrom_87 : decode cX11_goesFrom 87 = .ok (.getfield 97, 3) := by decide +kernel
theorem dX11_goesFrom_90 : decode cX11_goesFrom 90 = .ok (.iconst 2, 1) := by decide +kernel
theorem dX11_goesFrom_91 : decode cX11_goesFrom 91 = .ok (.iaload, 1) := by decide +kernel
theorem dX11_goesFrom_92 : decode cX11_goesFrom 92 = .ok (.iload_n 1, 1) := by decide +kernel
theorem dX11_goesFrom_93 : decode cX11_goesFrom 93 = .ok (.bipush 72, 2) := by decide +kernel
theorem dX11_goesFrom_95 : decode cX11_goesFrom 95 = .ok (.iload_n 2, 1) := by decide +kernel
theorem dX11_goesFrom_96 : decode cX11_goesFrom 96 = .ok (.imul, 1) := by decide +kernel
theorem dX11_goesFrom_97 : decode cX11_goesFrom 97 = .ok (.bipush 24, 2) := by decide +kernel
theorem dX11_goesFrom_99 : decode cX11_goesFrom 99 = .ok (.iload_n 3, 1) := by decide +kernel
theorem dX11_goesFrom_100 : decode cX11_goesFrom 100 = .ok (.imul, 1) := by decide +kernel
theorem dX11_goesFrom_101 : decode cX11_goesFrom 101 = .ok (.iadd, 1) := by decide +kernel
theorem dX11_goesFrom_102 : decode cX11_goesFrom 102 = .ok (.iload 4, 2) := by decide +kernel
theorem dX11_goesFrom_104 : decode cX11_goesFrom 104 = .ok (.iadd, 1) := by decide +kernel
theorem dX11_goesFrom_105 : decode cX11_goesFrom 105 = .ok (.iconst 1, 1) := by decide +kernel
theorem dX11_goesFrom_106 : decode cX11_goesFrom 106 = .ok (.isub, 1) := by decide +kernel
theorem dX11_goesFrom_107 : decode cX11_goesFrom 107 = .ok (.invokevirtual 454, 3) := by decide +kernel
theorem dX11_goesFrom_110 : decode cX11_goesFrom 110 = .ok (.iinc 4 1, 3) := by decide +kernel
theorem dX11_goesFrom_113 : decode cX11_goesFrom 113 = .ok (.goto (-96), 3) := by decide +kernel
theorem dX11_goesFrom_116 : decode cX11_goesFrom 116 = .ok (.iinc 3 1, 3) := by decide +kernel
theorem dX11_goesFrom_119 : decode cX11_goesFrom 119 = .ok (.goto (-110), 3) := by decide +kernel
theorem dX11_goesFrom_122 : decode cX11_goesFrom 122 = .ok (.iinc 2 1, 3) := by decide +kernel
theorem dX11_goesFrom_125 : decode cX11_goesFrom 125 = .ok (.goto (-123), 3) := by decide +kernel
theorem dX11_goesFrom_128 : decode cX11_goesFrom 128 = .ok (.return_, 1) := by decide +kernel
set_option maxHeartbeats 4000000 in
set_option maxRecDepth 100000 in
theorem c_X11_goesFrom (l : Launch) (dC : Nat → ClassId) (dI : Nat → Nat → Nat) (cB cI cJ : ClassId) (sz : Nat) (m0 m_tape m_read m_tets m_primes m_often m_normal m_termM m_termP m_termV m_sumFrom m_sumMany m_part m_fair m_heap m_pickTet m_pickEdge m_base m_baseM m_baseP m_rowsOf m_grid m_times m_boxes m_cameFrom m_cameBy m_steps m_sides m_next m_cube m_ways : Nat) (Q T : List qE) (fb fc fd fn : Nat → Int32) (V u0 u1 u2 k pk d : Nat) (hu : (1 ≤ u0 ∧ u0 ≤ 24) ∧ (1 ≤ u1 ∧ u1 ≤ 24) ∧ (1 ≤ u2 ∧ u2 ≤ 24)) (hV : u0 * u1 * u2 = V) (hk : Q[k]? = some (bx_mk u0 u1 u2, pk, d)) (hI : q_in V Q) (hR : RR Q fb fc) (hT : q_sees k (d + 1) (nb_of (bx_mk u0 u1 u2)) Q = T) (hTl : T.length ≤ 96) : Met l yX11_goesFrom wsX11_goesFrom ({ frames := 2, cells := 0, slots := 0, locals := 50 }) (va_Pc [.ref m0, .int (nI k)] (fun U => U.heap.size = sz ∧ va_P (dC, dI) vwCl [(m0, .inr (11, [.int 0, .ref m_tape, .int 0, .int 0, .int 0, .ref m_read, .int 0, .int 0, .int 0, .ref m_tets, .int 0, .int 0, .int 0, .int 0, .int 0, .int 0, .int 0, .int 0, .ref m_primes, .ref m_often, .ref m_normal, .ref m_termM, .ref m_termP, .ref m_termV, .ref m_sumFrom, .ref m_sumMany, .int 0, .int 0, .int 0, .int 0, .ref m_part, .ref m_fair, .ref m_heap, .ref m_pickTet, .ref m_pickEdge, .ref m_base, .ref m_baseM, .ref m_baseP, .ref m_rowsOf, .int 0, .ref m_grid, .ref m_times, .ref m_boxes, .ref m_cameFrom, .ref m_cameBy, .ref m_steps, .ref m_sides, .int (nI Q.length), .int (-1), .ref m_next, .ref m_cube, .ref m_ways])), (m_boxes, .inl (cI, 3600, (.inl fb))), (m_cameFrom, .inl (cI, 1200, (.inl fc))), (m_cameBy, .inl (cI, 1200, (.inl fd))), (m_next, .inl (cI, 3, (.inl fn)))] U.heap ∧ va_K (dC, dI) vwCl [(cB, .byte), (cI, .int), (cJ, .long)] U ∧ va_D (fun _ => True) [(m0, .inr (11, [.int 0, .ref m_tape, .int 0, .int 0, .int 0, .ref m_read, .int 0, .int 0, .int 0, .ref m_tets, .int 0, .int 0, .int 0, .int 0, .int 0, .int 0, .int 0, .int 0, .ref m_primes, .ref m_often, .ref m_normal, .ref m_termM, .ref m_termP, .ref m_termV, .ref m_sumFrom, .ref m_sumMany, .int 0, .int 0, .int 0, .int 0, .ref m_part, .ref m_fair, .ref m_heap, .ref m_pickTet, .ref m_pickEdge, .ref m_base, .ref m_baseM, .ref m_baseP, .ref m_rowsOf, .int 0, .ref m_grid, .ref m_times, .ref m_boxes, .ref m_cameFrom, .ref m_cameBy, .ref m_steps, .ref m_sides, .int (nI Q.length), .int (-1), .ref m_next, .ref m_cube, .ref m_ways])), (m_boxes, .inl (cI, 3600, (.inl fb))), (m_cameFrom, .inl (cI, 1200, (.inl fc))), (m_cameBy, .inl (cI, 1200, (.inl fd))), (m_next, .inl (cI, 3, (.inl fn)))])) (va_Qv (fun _ : Unit => True) (fun _ t => ∃ fz : Nat → Int32, ∃ fy : Nat → Int32, ∃ fw : Nat → Int32, ∃ fv : Nat → Int32, RR T fz fy ∧ va_P (dC, dI) vwCl [(m0, .inr (11, [.int 0, .ref m_tape, .int 0, .int 0, .int 0, .ref m_read, .int 0, .int 0, .int 0, .ref m_tets, .int 0, .int 0, .int 0, .int 0, .int 0, .int 0, .int 0, .int 0, .ref m_primes, .ref m_often, .ref m_normal, .ref m_termM, .ref m_termP, .ref m_termV, .ref m_sumFrom, .ref m_sumMany, .int 0, .int 0, .int 0, .int 0, .ref m_part, .ref m_fair, .ref m_heap, .ref m_pickTet, .ref m_pickEdge, .ref m_base, .ref m_baseM, .ref m_baseP, .ref m_rowsOf, .int 0, .ref m_grid, .ref m_times, .ref m_boxes, .ref m_cameFrom, .ref m_cameBy, .ref m_steps, .ref m_sides, .int (nI T.length), .int (-1), .ref m_next, .ref m_cube, .ref m_ways])), (m_boxes, .inl (cI, 3600, (.inl fz))), (m_cameFrom, .inl (cI, 1200, (.inl fy))), (m_cameBy, .inl (cI, 1200, (.inl fw))), (m_next, .inl (cI, 3, (.inl fv)))] t.heap ∧ va_K (dC, dI) vwCl [(cB, .byte), (cI, .int), (cJ, .long)] t ∧ va_D (va_A [(m0, .inr (11, [.int 0, .ref m_tape, .int 0, .int 0, .int 0, .ref m_read, .int 0, .int 0, .int 0, .ref m_tets, .int 0, .int 0, .int 0, .int 0, .int 0, .int 0, .int 0, .int 0, .ref m_primes, .ref m_often, .ref m_normal, .ref m_termM, .ref m_termP, .ref m_termV, .ref m_sumFrom, .ref m_sumMany, .int 0, .int 0, .int 0, .int 0, .ref m_part, .ref m_fair, .ref m_heap, .ref m_pickTet, .ref m_pickEdge, .ref m_base, .ref m_baseM, .ref m_baseP, .ref m_rowsOf, .int 0, .ref m_grid, .ref m_times, .ref m_boxes, .ref m_cameFrom, .ref m_cameBy, .ref m_steps, .ref m_sides, .int (nI Q.length), .int (-1), .ref m_next, .ref m_cube, .ref m_ways])), (m_boxes, .inl (cI, 3600, (.inl fb))), (m_cameFrom, .inl (cI, 1200, (.inl fc))), (m_cameBy, .inl (cI, 1200, (.inl fd))), (m_next, .inl (cI, 3, (.inl fn)))] sz) [(m0, .inr (11, [.int 0, .ref m_tape, .int 0, .int 0, .int 0, .ref m_read, .int 0, .int 0, .int 0, .ref m_tets, .int 0, .int 0, .int 0, .int 0, .int 0, .int 0, .int 0, .int 0, .ref m_primes, .ref m_often, .ref m_normal, .ref m_termM, .ref m_termP, .ref m_termV, .ref m_sumFrom, .ref m_sumMany, .int 0, .int 0, .int 0, .int 0, .ref m_part, .ref m_fair, .ref m_heap, .ref m_pickTet, .ref m_pickEdge, .ref m_base, .ref m_baseM, .ref m_baseP, .ref m_rowsOf, .int 0, .ref m_grid, .ref m_times, .ref m_boxes, .ref m_cameFrom, .ref m_cameBy, .ref m_steps, .ref m_sides, .int (nI T.length), .int (-1), .ref m_next, .ref m_cube, .ref m_ways])), (m_boxes, .inl (cI, 3600, (.inl fz))), (m_cameFrom, .inl (cI, 1200, (.inl fy))), (m_cameBy, .inl (cI, 1200, (.inl fw))), (m_next, .inl (cI, 3, (.inl fv)))]) (va_A [(m0, .inr (11, [.int 0, .ref m_tape, .int 0, .int 0, .int 0, .ref m_read, .int 0, .int 0, .int 0, .ref m_tets, .int 0, .int 0, .int 0, .int 0, .int 0, .int 0, .int 0, .int 0, .ref m_primes, .ref m_often, .ref m_normal, .ref m_termM, .ref m_termP, .ref m_termV, .ref m_sumFrom, .ref m_sumMany, .int 0, .int 0, .int 0, .int 0, .ref m_part, .ref m_fair, .ref m_heap, .ref m_pickTet, .ref m_pickEdge, .ref m_base, .ref m_baseM, .ref m_baseP, .ref m_rowsOf, .int 0, .ref m_grid, .ref m_times, .ref m_boxes, .ref m_cameFrom, .ref m_cameBy, .ref m_steps, .ref m_sides, .int (nI Q.length), .int (-1), .ref m_next, .ref m_cube, .ref m_ways])), (m_boxes, .inl (cI, 3600, (.inl fb))), (m_cameFrom, .inl (cI, 1200, (.inl fc))), (m_cameBy, .inl (cI, 1200, (.inl fd))), (m_next, .inl (cI, 3, (.inl fn)))] sz)) 0 0 (va_A [(m0, .inr (11, [.int 0, .ref m_tape, .int 0, .int 0, .int 0, .ref m_read, .int 0, .int 0, .int 0, .ref m_tets, .int 0, .int 0, .int 0, .int 0, .int 0, .int 0, .int 0, .int 0, .ref m_primes, .ref m_often, .ref m_normal, .ref m_termM, .ref m_termP, .ref m_termV, .ref m_sumFrom, .ref m_sumMany, .int 0, .int 0, .int 0, .int 0, .ref m_part, .ref m_fair, .ref m_heap, .ref m_pickTet, .ref m_pickEdge, .ref m_base, .ref m_baseM, .ref m_baseP, .ref m_rowsOf, .int 0, .ref m_grid, .ref m_times, .ref m_boxes, .ref m_cameFrom, .ref m_cameBy, .ref m_steps, .ref m_sides, .int (nI Q.length), .int (-1), .ref m_next, .ref m_cube, .ref m_ways])), (m_boxes, .inl (cI, 3600, (.inl fb))), (m_cameFrom, .inl (cI, 1200, (.inl fc))), (m_cameBy, .inl (cI, 1200, (.inl fd))), (m_next, .inl (cI, 3, (.inl fn)))] sz) := by
  refine Met.ofW (cc := cX11_goesFrom) (maxL := 6) (ret := none) (by decide) rfl ?_
  intro p e s m args below meth c s₁ B hml hv
  obtain ⟨rfl, hsz, hP, hK, hD0⟩ := hv
  have hx := B.exec
  have hb := B.bytes
  have hr := B.returns
  have hts := atoms_spec (ws := wsX11_goesFrom) B.pre
  have hown : s.vm.findClass RX11 = some m.cls := findClass_of_methodNamed B.named
  have hlocks := B.notSynchronized
  have hiX11 : ∀ w ∈ u_ws RX11 TX11 52, w ∈ wsX11_goesFrom := by decide +kernel
  subst hsz
  have hD := hD0.self (sz := s.heap.size)
  generalize hAe : va_A [(m0, .inr (11, [.int 0, .ref m_tape, .int 0, .int 0, .int 0, .ref m_read, .int 0, .int 0, .int 0, .ref m_tets, .int 0, .int 0, .int 0, .int 0, .int 0, .int 0, .int 0, .int 0, .ref m_primes, .ref m_often, .ref m_normal, .ref m_termM, .ref m_termP, .ref m_termV, .ref m_sumFrom, .ref m_sumMany, .int 0, .int 0, .int 0, .int 0, .ref m_part, .ref m_fair, .ref m_heap, .ref m_pickTet, .ref m_pickEdge, .ref m_base, .ref m_baseM, .ref m_baseP, .ref m_rowsOf, .int 0, .ref m_grid, .ref m_times, .ref m_boxes, .ref m_cameFrom, .ref m_cameBy, .ref m_steps, .ref m_sides, .int (nI Q.length), .int (-1), .ref m_next, .ref m_cube, .ref m_ways])), (m_boxes, .inl (cI, 3600, (.inl fb))), (m_cameFrom, .inl (cI, 1200, (.inl fc))), (m_cameBy, .inl (cI, 1200, (.inl fd))), (m_next, .inl (cI, 3, (.inl fn)))] s.heap.size = A at hD ⊢
  have hA : ∀ q : Nat, s.heap.size ≤ q → A q := fun q h => by rw [← hAe]; exact Or.inr h
  have hS : va_S A s.heap s.heap [] := va_S.rf
  have hP : va_P (dC, dI) vwCl [(m0, .inr (11, [.int 0, .ref m_tape, .int 0, .int 0, .int 0, .ref m_read, .int 0, .int 0, .int 0, .ref m_tets, .int 0, .int 0, .int 0, .int 0, .int 0, .int 0, .int 0, .int 0, .ref m_primes, .ref m_often, .ref m_normal, .ref m_termM, .ref m_termP, .ref m_termV, .ref m_sumFrom, .ref m_sumMany, .int 0, .int 0, .int 0, .int 0, .ref m_part, .ref m_fair, .ref m_heap, .ref m_pickTet, .ref m_pickEdge, .ref m_base, .ref m_baseM, .ref m_baseP, .ref m_rowsOf, .int 0, .ref m_grid, .ref m_times, .ref m_boxes, .ref m_cameFrom, .ref m_cameBy, .ref m_steps, .ref m_sides, .int (nI Q.length), .int (-1), .ref m_next, .ref m_cube, .ref m_ways])), (m_boxes, .inl (cI, 3600, (.inl fb))), (m_cameFrom, .inl (cI, 1200, (.inl fc))), (m_cameBy, .inl (cI, 1200, (.inl fd))), (m_next, .inl (cI, 3, (.inl fn)))] s.heap := hP
  have hl := lv_entry ([.ref m0, .int (nI k)]) (n := 6) (Nat.le_of_ble_eq_true rfl)
  rw [lg_entry_eq]
  generalize (lg_sl ([.ref m0, .int (nI k)]) ++ List.replicate (6 - (lg_sl ([.ref m0, .int (nI k)])).length) Slot.unset).toArray = ls at hl ⊢
  have hl : lv_has ls 6 [(0, .ref m0), (1, .int (nI k))] := hl
  rw [nb_of_mk (by omega) (by omega)] at hT
  have hkl := q_lt hk
  refine nk_G (fun G inn out => ?_)
  have loop21 : ∀ (f21 : Nat) (n : Nat) (P : List qE) (gb : Nat → Int32) (gc : Nat → Int32) (gd : Nat → Int32) (gn : Nat → Int32) (h5 : n + f21 = 26) (h6 : 2 ≤ n) (h7 : n ≤ 25) (hP0 : P[k]? = some (bx_mk u0 u1 u2, pk, d)) (hPI : q_in V P) (hPR : RR P gb gc) (hPT : q_sees k (d + 1) (nb_n u0 u1 u2 2 1 (25 - n) n ++ []) P = T) (H : Heap) (locs : List Loc) (_ : va_P (dC, dI) vwCl [(m0, .inr (11, [.int 0, .ref m_tape, .int 0, .int 0, .int 0, .ref m_read, .int 0, .int 0, .int 0, .ref m_tets, .int 0, .int 0, .int 0, .int 0, .int 0, .int 0, .int 0, .int 0, .ref m_primes, .ref m_often, .ref m_normal, .ref m_termM, .ref m_termP, .ref m_termV, .ref m_sumFrom, .ref m_sumMany, .int 0, .int 0, .int 0, .int 0, .ref m_part, .ref m_fair, .ref m_heap, .ref m_pickTet, .ref m_pickEdge, .ref m_base, .ref m_baseM, .ref m_baseP, .ref m_rowsOf, .int 0, .ref m_grid, .ref m_times, .ref m_boxes, .ref m_cameFrom, .ref m_cameBy, .ref m_steps, .ref m_sides, .int (nI P.length), .int (-1), .ref m_next, .ref m_cube, .ref m_ways])), (m_boxes, .inl (cI, 3600, (.inl gb))), (m_cameFrom, .inl (cI, 1200, (.inl gc))), (m_cameBy, .inl (cI, 1200, (.inl gd))), (m_next, .inl (cI, 3, (.inl gn)))] H) (_ : va_D A [(m0, .inr (11, [.int 0, .ref m_tape, .int 0, .int 0, .int 0, .ref m_read, .int 0, .int 0, .int 0, .ref m_tets, .int 0, .int 0, .int 0, .int 0, .int 0, .int 0, .int 0, .int 0, .ref m_primes, .ref m_often, .ref m_normal, .ref m_termM, .ref m_termP, .ref m_termV, .ref m_sumFrom, .ref m_sumMany, .int 0, .int 0, .int 0, .int 0, .ref m_part, .ref m_fair, .ref m_heap, .ref m_pickTet, .ref m_pickEdge, .ref m_base, .ref m_baseM, .ref m_baseP, .ref m_rowsOf, .int 0, .ref m_grid, .ref m_times, .ref m_boxes, .ref m_cameFrom, .ref m_cameBy, .ref m_steps, .ref m_sides, .int (nI P.length), .int (-1), .ref m_next, .ref m_cube, .ref m_ways])), (m_boxes, .inl (cI, 3600, (.inl gb))), (m_cameFrom, .inl (cI, 1200, (.inl gc))), (m_cameBy, .inl (cI, 1200, (.inl gd))), (m_next, .inl (cI, 3, (.inl gn)))]) (_ : va_S A s.heap H locs) (ls : Array Slot) (_ : lv_has ls 6 [(0, .ref m0), (1, .int (nI k)), (2, .int 2), (3, .int 1), (4, .int (nI n))]), G H locs (F0 m 17 ls []) := by
    intro f21
    induction f21 with
    | zero =>
      intro n P gb gc gd gn h5 h6 h7 hP0 hPI hPR hPT H locs hP hD hS ls hl
      exfalso; omega
    | succ f21 ih21 =>
      intro n P gb gc gd gn h5 h6 h7 hP0 hPI hPR hPT H locs hP hD hS ls hl
      refine inn _ _ _ ?_
      have hPl : P.length ≤ 96 := Nat.le_trans (q_pre_len (hPT ▸ q_sees_pre k (d + 1) (nb_n u0 u1 u2 2 1 (25 - n) n ++ []) P)) hTl
      have hkl := q_lt hP0
      refine lv_iload hx hb dX11_goesFrom_17 (lv_at hl 4 rfl) ?_
      refine lv_bipush (v := 24) hx hb dX11_goesFrom_19 (by decide) ?_
      refine lv_icmp_gt (tgt := 116) hx hb dX11_goesFrom_21 (by decide) (fun c_1 => ?_) (fun c_1 => ?_)
      · have c_1 : 24 < n := (nI_ltI (a := 24) (b := n) (by omega) (by omega)).mp c_1
        have hPT : q_sees k (d + 1) [] P = T := by
          rw [show 25 - n = 0 by omega] at hPT
          exact hPT
        refine lv_iinc (v := 2) (lv' := [(3, .int 2), (0, .ref m0), (1, .int (nI k)), (2, .int 2), (4, .int (nI n))]) hx hb dX11_goesFrom_116 hl (k := 3) rfl (by decide) (by decide) rfl (fun ls hl => ?_)
        refine lv_goto (tgt := 9) hx hb dX11_goesFrom_119 (by decide) ?_
        refine lv_iload_n hx hb dX11_goesFrom_9 rfl (lv_at hl 0 rfl) ?_
        refine lv_iconst (v := 3) hx hb dX11_goesFrom_10 (by decide) ?_
        refine lv_icmp_ge (tgt := 122) hx hb dX11_goesFrom_11 (by decide) (fun c => absurd c (by decide)) (fun _ => ?_)
        refine lv_iconst (v := 2) hx hb dX11_goesFrom_14 (by decide) ?_
        refine lv_istore (lv' := [(4, .int 2), (3, .int 2), (0, .ref m0), (1, .int (nI k)), (2, .int 2)]) hx hb dX11_goesFrom_15 hl (by decide) rfl (fun ls hl => ?_)
        refine lv_iload hx hb dX11_goesFrom_17 (lv_at hl 0 rfl) ?_
        refine lv_bipush (v := 24) hx hb dX11_goesFrom_19 (by decide) ?_
        refine lv_icmp_gt (tgt := 116) hx hb dX11_goesFrom_21 (by decide) (fun c => absurd c (by decide)) (fun _ => ?_)
        refine lv_iload_n hx hb dX11_goesFrom_24 rfl (lv_at hl 4 rfl) ?_
        refine lv_iload_n hx hb dX11_goesFrom_25 rfl (lv_at hl 1 rfl) ?_
        refine lv_icmp_eq (tgt := 116) hx hb dX11_goesFrom_26 (by decide) (fun _ => ?_) (fun c => absurd (by decide) c)
        refine lv_iinc (v := 3) (lv' := [(3, .int 3), (4, .int 2), (0, .ref m0), (1, .int (nI k)), (2, .int 2)]) hx hb dX11_goesFrom_116 hl (k := 1) rfl (by decide) (by decide) rfl (fun ls hl => ?_)
        refine lv_goto (tgt := 9) hx hb dX11_goesFrom_119 (by decide) ?_
        refine lv_iload_n hx hb dX11_goesFrom_9 rfl (lv_at hl 0 rfl) ?_
        refine lv_iconst (v := 3) hx hb dX11_goesFrom_10 (by decide) ?_
        refine lv_icmp_ge (tgt := 122) hx hb dX11_goesFrom_11 (by decide) (fun _ => ?_) (fun c => absurd (by decide) c)
        refine lv_iinc (v := 3) (lv' := [(2, .int 3), (3, .int 3), (4, .int 2), (0, .ref m0), (1, .int (nI k))]) hx hb dX11_goesFrom_122 hl (k := 4) rfl (by decide) (by decide) rfl (fun ls hl => ?_)
        refine lv_goto (tgt := 2) hx hb dX11_goesFrom_125 (by decide) ?_
        refine lv_iload_n hx hb dX11_goesFrom_2 rfl (lv_at hl 0 rfl) ?_
        refine lv_iconst (v := 3) hx hb dX11_goesFrom_3 (by decide) ?_
        refine lv_icmp_ge (tgt := 128) hx hb dX11_goesFrom_4 (by decide) (fun _ => ?_) (fun c => absurd (by decide) c)
        have hPe : P = T := hPT
        rw [hPe] at hP hD hPR
        have hP : va_P (dC, dI) vwCl [(m0, .inr (11, [.int 0, .ref m_tape, .int 0, .int 0, .int 0, .ref m_read, .int 0, .int 0, .int 0, .ref m_tets, .int 0, .int 0, .int 0, .int 0, .int 0, .int 0, .int 0, .int 0, .ref m_primes, .ref m_often, .ref m_normal, .ref m_termM, .ref m_termP, .ref m_termV, .ref m_sumFrom, .ref m_sumMany, .int 0, .int 0, .int 0, .int 0, .ref m_part, .ref m_fair, .ref m_heap, .ref m_pickTet, .ref m_pickEdge, .ref m_base, .ref m_baseM, .ref m_baseP, .ref m_rowsOf, .int 0, .ref m_grid, .ref m_times, .ref m_boxes, .ref m_cameFrom, .ref m_cameBy, .ref m_steps, .ref m_sides, .int (nI T.length), .int (-1), .ref m_next, .ref m_cube, .ref m_ways])), (m_boxes, .inl (cI, 3600, (.inl gb))), (m_cameFrom, .inl (cI, 1200, (.inl gc))), (m_cameBy, .inl (cI, 1200, (.inl gd))), (m_next, .inl (cI, 3, (.inl gn)))] H := hP
        have hD : va_D A [(m0, .inr (11, [.int 0, .ref m_tape, .int 0, .int 0, .int 0, .ref m_read, .int 0, .int 0, .int 0, .ref m_tets, .int 0, .int 0, .int 0, .int 0, .int 0, .int 0, .int 0, .int 0, .ref m_primes, .ref m_often, .ref m_normal, .ref m_termM, .ref m_termP, .ref m_termV, .ref m_sumFrom, .ref m_sumMany, .int 0, .int 0, .int 0, .int 0, .ref m_part, .ref m_fair, .ref m_heap, .ref m_pickTet, .ref m_pickEdge, .ref m_base, .ref m_baseM, .ref m_baseP, .ref m_rowsOf, .int 0, .ref m_grid, .ref m_times, .ref m_boxes, .ref m_cameFrom, .ref m_cameBy, .ref m_steps, .ref m_sides, .int (nI T.length), .int (-1), .ref m_next, .ref m_cube, .ref m_ways])), (m_boxes, .inl (cI, 3600, (.inl gb))), (m_cameFrom, .inl (cI, 1200, (.inl gc))), (m_cameBy, .inl (cI, 1200, (.inl gd))), (m_next, .inl (cI, 3, (.inl gn)))] := hD
        have hP9 := hP.sub (ws' := [(m0, .inr (11, [.int 0, .ref m_tape, .int 0, .int 0, .int 0, .ref m_read, .int 0, .int 0, .int 0, .ref m_tets, .int 0, .int 0, .int 0, .int 0, .int 0, .int 0, .int 0, .int 0, .ref m_primes, .ref m_often, .ref m_normal, .ref m_termM, .ref m_termP, .ref m_termV, .ref m_sumFrom, .ref m_sumMany, .int 0, .int 0, .int 0, .int 0, .ref m_part, .ref m_fair, .ref m_heap, .ref m_pickTet, .ref m_pickEdge, .ref m_base, .ref m_baseM, .ref m_baseP, .ref m_rowsOf, .int 0, .ref m_grid, .ref m_times, .ref m_boxes, .ref m_cameFrom, .ref m_cameBy, .ref m_steps, .ref m_sides, .int (nI T.length), .int (-1), .ref m_next, .ref m_cube, .ref m_ways])), (m_boxes, .inl (cI, 3600, (.inl gb))), (m_cameFrom, .inl (cI, 1200, (.inl gc))), (m_cameBy, .inl (cI, 1200, (.inl gd))), (m_next, .inl (cI, 3, (.inl gn)))]) [0, 1, 2, 3, 4] rfl
        have hD9 := hD.sub (ws' := [(m0, .inr (11, [.int 0, .ref m_tape, .int 0, .int 0, .int 0, .ref m_read, .int 0, .int 0, .int 0, .ref m_tets, .int 0, .int 0, .int 0, .int 0, .int 0, .int 0, .int 0, .int 0, .ref m_primes, .ref m_often, .ref m_normal, .ref m_termM, .ref m_termP, .ref m_termV, .ref m_sumFrom, .ref m_sumMany, .int 0, .int 0, .int 0, .int 0, .ref m_part, .ref m_fair, .ref m_heap, .ref m_pickTet, .ref m_pickEdge, .ref m_base, .ref m_baseM, .ref m_baseP, .ref m_rowsOf, .int 0, .ref m_grid, .ref m_times, .ref m_boxes, .ref m_cameFrom, .ref m_cameBy, .ref m_steps, .ref m_sides, .int (nI T.length), .int (-1), .ref m_next, .ref m_cube, .ref m_ways])), (m_boxes, .inl (cI, 3600, (.inl gb))), (m_cameFrom, .inl (cI, 1200, (.inl gc))), (m_cameBy, .inl (cI, 1200, (.inl gd))), (m_next, .inl (cI, 3, (.inl gn)))]) [0, 1, 2, 3, 4] (by decide) rfl
        exact W.vret hx hb hr (fun t ht hW => ⟨⟨(), rfl, trivial, gb, gc, gd, gn, hPR, by rw [ht]; exact hP9, va_K.moved hW.alike hK, hD9⟩, hS.F ht⟩) hS.2.2 dX11_goesFrom_128
      · have c_1 : ¬ 24 < n := fun q9 => c_1 ((nI_ltI (a := 24) (b := n) (by omega) (by omega)).mpr q9)
        rw [show 25 - n = (25 - (n + 1)) + 1 by omega] at hPT
        refine lv_iload_n hx hb dX11_goesFrom_24 rfl (lv_at hl 2 rfl) ?_
        refine lv_iload_n hx hb dX11_goesFrom_25 rfl (lv_at hl 3 rfl) ?_
        refine lv_icmp_eq (tgt := 116) hx hb dX11_goesFrom_26 (by decide) (fun c => absurd c (by decide)) (fun _ => ?_)
        refine lv_iconst (v := 0) hx hb dX11_goesFrom_29 (by decide) ?_
        refine lv_istore (lv' := [(5, .int 0), (0, .ref m0), (1, .int (nI k)), (2, .int 2), (3, .int 1), (4, .int (nI n))]) hx hb dX11_goesFrom_30 hl (by decide) rfl (fun ls hl => ?_)
        refine lv_iload hx hb dX11_goesFrom_32 (lv_at hl 0 rfl) ?_
        refine lv_iconst (v := 3) hx hb dX11_goesFrom_34 (by decide) ?_
        refine lv_icmp_ge (tgt := 62) hx hb dX11_goesFrom_35 (by decide) (fun c => absurd c (by decide)) (fun _ => ?_)
        refine lv_aload_n hx hb dX11_goesFrom_38 rfl (lv_at hl 1 rfl) ?_
        refine va_get (D := (dC, dI)) (ci := 11) (v := .ref m_next) (C := RX11) (T := TX11) (N := 52) hx hb hts hiX11 hown hK hP 0 rfl rfl 49 (by decide) (hts (.fieldLink RX11 97 "ScissorsTableModel" "next" "[I") (by decide +kernel)) (fun _ h9 => h9) rfl dX11_goesFrom_39 ?_
        refine lv_iload hx hb dX11_goesFrom_42 (lv_at hl 0 rfl) ?_
        refine lv_aload_n hx hb dX11_goesFrom_44 rfl (lv_at hl 1 rfl) ?_
        refine va_get (D := (dC, dI)) (ci := 11) (v := .ref m_boxes) (C := RX11) (T := TX11) (N := 52) hx hb hts hiX11 hown hK hP 0 rfl rfl 42 (by decide) (hts (.fieldLink RX11 78 "ScissorsTableModel" "boxes" "[I") (by decide +kernel)) (fun _ h9 => h9) rfl dX11_goesFrom_45 ?_
        refine lv_iconst (v := 3) hx hb dX11_goesFrom_48 (by decide) ?_
        refine lv_iload_n hx hb dX11_goesFrom_49 rfl (lv_at hl 2 rfl) ?_
        refine lv_imul hx hb dX11_goesFrom_50 ?_
        refine lv_topi (fun x_2 ex_2 => ?_)
        obtain rfl : x_2 = nI (3 * k) := ex_2.trans (pk_mul 3 k)
        refine lv_iload hx hb dX11_goesFrom_51 (lv_at hl 0 rfl) ?_
        refine lv_iadd hx hb dX11_goesFrom_53 ?_
        refine lv_topi (fun x_3 ex_3 => ?_)
        obtain rfl : x_3 = nI ((3 * k) + 0) := ex_3.trans (nI_add (3 * k) 0)
        refine va_iald hx hb hK hP 1 1 rfl rfl (vp_in_nI (by omega) (by decide)) dX11_goesFrom_54 ?_
        refine lv_topi (fun x_4 ex_4 => ?_)
        rw [nI_clamp (show (3 * k) + 0 < 2 ^ 31 by omega)] at ex_4
        obtain rfl : x_4 = nI u0 := ex_4.trans ((hPR k _ hP0).1.trans (congrArg nI (bx_x (by omega) (by omega))))
        refine va_iast hx hb hK hP hD hS 4 1 rfl rfl (by show ¬ (_ ∨ _); decide) dX11_goesFrom_55 (fun H locs hP hD hS => ?_)
        rw [show (0 : Int32).toNatClampNeg = 0 from rfl] at hP hD
        have hP : va_P (dC, dI) vwCl [(m0, .inr (11, [.int 0, .ref m_tape, .int 0, .int 0, .int 0, .ref m_read, .int 0, .int 0, .int 0, .ref m_tets, .int 0, .int 0, .int 0, .int 0, .int 0, .int 0, .int 0, .int 0, .ref m_primes, .ref m_often, .ref m_normal, .ref m_termM, .ref m_termP, .ref m_termV, .ref m_sumFrom, .ref m_sumMany, .int 0, .int 0, .int 0, .int 0, .ref m_part, .ref m_fair, .ref m_heap, .ref m_pickTet, .ref m_pickEdge, .ref m_base, .ref m_baseM, .ref m_baseP, .ref m_rowsOf, .int 0, .ref m_grid, .ref m_times, .ref m_boxes, .ref m_cameFrom, .ref m_cameBy, .ref m_steps, .ref m_sides, .int (nI P.length), .int (-1), .ref m_next, .ref m_cube, .ref m_ways])), (m_boxes, .inl (cI, 3600, (.inl gb))), (m_cameFrom, .inl (cI, 1200, (.inl gc))), (m_cameBy, .inl (cI, 1200, (.inl gd))), (m_next, .inl (cI, 3, (.inl (upd gn 0 (nI u0)))))] H := hP
        have hD : va_D A [(m0, .inr (11, [.int 0, .ref m_tape, .int 0, .int 0, .int 0, .ref m_read, .int 0, .int 0, .int 0, .ref m_tets, .int 0, .int 0, .int 0, .int 0, .int 0, .int 0, .int 0, .int 0, .ref m_primes, .ref m_often, .ref m_normal, .ref m_termM, .ref m_termP, .ref m_termV, .ref m_sumFrom, .ref m_sumMany, .int 0, .int 0, .int 0, .int 0, .ref m_part, .ref m_fair, .ref m_heap, .ref m_pickTet, .ref m_pickEdge, .ref m_base, .ref m_baseM, .ref m_baseP, .ref m_rowsOf, .int 0, .ref m_grid, .ref m_times, .ref m_boxes, .ref m_cameFrom, .ref m_cameBy, .ref m_steps, .ref m_sides, .int (nI P.length), .int (-1), .ref m_next, .ref m_cube, .ref m_ways])), (m_boxes, .inl (cI, 3600, (.inl gb))), (m_cameFrom, .inl (cI, 1200, (.inl gc))), (m_cameBy, .inl (cI, 1200, (.inl gd))), (m_next, .inl (cI, 3, (.inl (upd gn 0 (nI u0)))))] := hD
        refine lv_iinc (v := 1) (lv' := [(5, .int 1), (0, .ref m0), (1, .int (nI k)), (2, .int 2), (3, .int 1), (4, .int (nI n))]) hx hb dX11_goesFrom_56 hl (k := 0) rfl (by decide) (by decide) rfl (fun ls hl => ?_)
        refine lv_goto (tgt := 32) hx hb dX11_goesFrom_59 (by decide) ?_
        refine lv_iload hx hb dX11_goesFrom_32 (lv_at hl 0 rfl) ?_
        refine lv_iconst (v := 3) hx hb dX11_goesFrom_34 (by decide) ?_
        refine lv_icmp_ge (tgt := 62) hx hb dX11_goesFrom_35 (by decide) (fun c => absurd c (by decide)) (fun _ => ?_)
        refine lv_aload_n hx hb dX11_goesFrom_38 rfl (lv_at hl 1 rfl) ?_
        refine va_get (D := (dC, dI)) (ci := 11) (v := .ref m_next) (C := RX11) (T := TX11) (N := 52) hx hb hts hiX11 hown hK hP 0 rfl rfl 49 (by decide) (hts (.fieldLink RX11 97 "ScissorsTableModel" "next" "[I") (by decide +kernel)) (fun _ h9 => h9) rfl dX11_goesFrom_39 ?_
        refine lv_iload hx hb dX11_goesFrom_42 (lv_at hl 0 rfl) ?_
        refine lv_aload_n hx hb dX11_goesFrom_44 rfl (lv_at hl 1 rfl) ?_
        refine va_get (D := (dC, dI)) (ci := 11) (v := .ref m_boxes) (C := RX11) (T := TX11) (N := 52) hx hb hts hiX11 hown hK hP 0 rfl rfl 42 (by decide) (hts (.fieldLink RX11 78 "ScissorsTableModel" "boxes" "[I") (by decide +kernel)) (fun _ h9 => h9) rfl dX11_goesFrom_45 ?_
        refine lv_iconst (v := 3) hx hb dX11_goesFrom_48 (by decide) ?_
        refine lv_iload_n hx hb dX11_goesFrom_49 rfl (lv_at hl 2 rfl) ?_
        refine lv_imul hx hb dX11_goesFrom_50 ?_
        refine lv_topi (fun x_5 ex_5 => ?_)
        obtain rfl : x_5 = nI (3 * k) := ex_5.trans (pk_mul 3 k)
        refine lv_iload hx hb dX11_goesFrom_51 (lv_at hl 0 rfl) ?_
        refine lv_iadd hx hb dX11_goesFrom_53 ?_
        refine lv_topi (fun x_6 ex_6 => ?_)
        obtain rfl : x_6 = nI ((3 * k) + 1) := ex_6.trans (nI_add (3 * k) 1)
        refine va_iald hx hb hK hP 1 1 rfl rfl (vp_in_nI (by omega) (by decide)) dX11_goesFrom_54 ?_
        refine lv_topi (fun x_7 ex_7 => ?_)
        rw [nI_clamp (show (3 * k) + 1 < 2 ^ 31 by omega)] at ex_7
        obtain rfl : x_7 = nI u1 := ex_7.trans ((hPR k _ hP0).2.1.trans (congrArg nI (bx_y (by omega) (by omega))))
        refine va_iast hx hb hK hP hD hS 4 1 rfl rfl (by show ¬ (_ ∨ _); decide) dX11_goesFrom_55 (fun H locs hP hD hS => ?_)
        rw [show (1 : Int32).toNatClampNeg = 1 from rfl] at hP hD
        have hP : va_P (dC, dI) vwCl [(m0, .inr (11, [.int 0, .ref m_tape, .int 0, .int 0, .int 0, .ref m_read, .int 0, .int 0, .int 0, .ref m_tets, .int 0, .int 0, .int 0, .int 0, .int 0, .int 0, .int 0, .int 0, .ref m_primes, .ref m_often, .ref m_normal, .ref m_termM, .ref m_termP, .ref m_termV, .ref m_sumFrom, .ref m_sumMany, .int 0, .int 0, .int 0, .int 0, .ref m_part, .ref m_fair, .ref m_heap, .ref m_pickTet, .ref m_pickEdge, .ref m_base, .ref m_baseM, .ref m_baseP, .ref m_rowsOf, .int 0, .ref m_grid, .ref m_times, .ref m_boxes, .ref m_cameFrom, .ref m_cameBy, .ref m_steps, .ref m_sides, .int (nI P.length), .int (-1), .ref m_next, .ref m_cube, .ref m_ways])), (m_boxes, .inl (cI, 3600, (.inl gb))), (m_cameFrom, .inl (cI, 1200, (.inl gc))), (m_cameBy, .inl (cI, 1200, (.inl gd))), (m_next, .inl (cI, 3, (.inl (upd (upd gn 0 (nI u0)) 1 (nI u1)))))] H := hP
        have hD : va_D A [(m0, .inr (11, [.int 0, .ref m_tape, .int 0, .int 0, .int 0, .ref m_read, .int 0, .int 0, .int 0, .ref m_tets, .int 0, .int 0, .int 0, .int 0, .int 0, .int 0, .int 0, .int 0, .ref m_primes, .ref m_often, .ref m_normal, .ref m_termM, .ref m_termP, .ref m_termV, .ref m_sumFrom, .ref m_sumMany, .int 0, .int 0, .int 0, .int 0, .ref m_part, .ref m_fair, .ref m_heap, .ref m_pickTet, .ref m_pickEdge, .ref m_base, .ref m_baseM, .ref m_baseP, .ref m_rowsOf, .int 0, .ref m_grid, .ref m_times, .ref m_boxes, .ref m_cameFrom, .ref m_cameBy, .ref m_steps, .ref m_sides, .int (nI P.length), .int (-1), .ref m_next, .ref m_cube, .ref m_ways])), (m_boxes, .inl (cI, 3600, (.inl gb))), (m_cameFrom, .inl (cI, 1200, (.inl gc))), (m_cameBy, .inl (cI, 1200, (.inl gd))), (m_next, .inl (cI, 3, (.inl (upd (upd gn 0 (nI u0)) 1 (nI u1)))))] := hD
        refine lv_iinc (v := 2) (lv' := [(5, .int 2), (0, .ref m0), (1, .int (nI k)), (2, .int 2), (3, .int 1), (4, .int (nI n))]) hx hb dX11_goesFrom_56 hl (k := 0) rfl (by decide) (by decide) rfl (fun ls hl => ?_)
        refine lv_goto (tgt := 32) hx hb dX11_goesFrom_59 (by decide) ?_
        refine lv_iload hx hb dX11_goesFrom_32 (lv_at hl 0 rfl) ?_
        refine lv_iconst (v := 3) hx hb dX11_goesFrom_34 (by decide) ?_
        refine lv_icmp_ge (tgt := 62) hx hb dX11_goesFrom_35 (by decide) (fun c => absurd c (by decide)) (fun _ => ?_)
        refine lv_aload_n hx hb dX11_goesFrom_38 rfl (lv_at hl 1 rfl) ?_
        refine va_get (D := (dC, dI)) (ci := 11) (v := .ref m_next) (C := RX11) (T := TX11) (N := 52) hx hb hts hiX11 hown hK hP 0 rfl rfl 49 (by decide) (hts (.fieldLink RX11 97 "ScissorsTableModel" "next" "[I") (by decide +kernel)) (fun _ h9 => h9) rfl dX11_goesFrom_39 ?_
        refine lv_iload hx hb dX11_goesFrom_42 (lv_at hl 0 rfl) ?_
        refine lv_aload_n hx hb dX11_goesFrom_44 rfl (lv_at hl 1 rfl) ?_
        refine va_get (D := (dC, dI)) (ci := 11) (v := .ref m_boxes) (C := RX11) (T := TX11) (N := 52) hx hb hts hiX11 hown hK hP 0 rfl rfl 42 (by decide) (hts (.fieldLink RX11 78 "ScissorsTableModel" "boxes" "[I") (by decide +kernel)) (fun _ h9 => h9) rfl dX11_goesFrom_45 ?_
        refine lv_iconst (v := 3) hx hb dX11_goesFrom_48 (by decide) ?_
        refine lv_iload_n hx hb dX11_goesFrom_49 rfl (lv_at hl 2 rfl) ?_
        refine lv_imul hx hb dX11_goesFrom_50 ?_
        refine lv_topi (fun x_8 ex_8 => ?_)
        obtain rfl : x_8 = nI (3 * k) := ex_8.trans (pk_mul 3 k)
        refine lv_iload hx hb dX11_goesFrom_51 (lv_at hl 0 rfl) ?_
        refine lv_iadd hx hb dX11_goesFrom_53 ?_
        refine lv_topi (fun x_9 ex_9 => ?_)
        obtain rfl : x_9 = nI ((3 * k) + 2) := ex_9.trans (nI_add (3 * k) 2)
        refine va_iald hx hb hK hP 1 1 rfl rfl (vp_in_nI (by omega) (by decide)) dX11_goesFrom_54 ?_
        refine lv_topi (fun x_10 ex_10 => ?_)
        rw [nI_clamp (show (3 * k) + 2 < 2 ^ 31 by omega)] at ex_10
        obtain rfl : x_10 = nI u2 := ex_10.trans ((hPR k _ hP0).2.2.1.trans (congrArg nI (bx_z (by omega))))
        refine va_iast hx hb hK hP hD hS 4 1 rfl rfl (by show ¬ (_ ∨ _); decide) dX11_goesFrom_55 (fun H locs hP hD hS => ?_)
        rw [show (2 : Int32).toNatClampNeg = 2 from rfl] at hP hD
        have hP : va_P (dC, dI) vwCl [(m0, .inr (11, [.int 0, .ref m_tape, .int 0, .int 0, .int 0, .ref m_read, .int 0, .int 0, .int 0, .ref m_tets, .int 0, .int 0, .int 0, .int 0, .int 0, .int 0, .int 0, .int 0, .ref m_primes, .ref m_often, .ref m_normal, .ref m_termM, .ref m_termP, .ref m_termV, .ref m_sumFrom, .ref m_sumMany, .int 0, .int 0, .int 0, .int 0, .ref m_part, .ref m_fair, .ref m_heap, .ref m_pickTet, .ref m_pickEdge, .ref m_base, .ref m_baseM, .ref m_baseP, .ref m_rowsOf, .int 0, .ref m_grid, .ref m_times, .ref m_boxes, .ref m_cameFrom, .ref m_cameBy, .ref m_steps, .ref m_sides, .int (nI P.length), .int (-1), .ref m_next, .ref m_cube, .ref m_ways])), (m_boxes, .inl (cI, 3600, (.inl gb))), (m_cameFrom, .inl (cI, 1200, (.inl gc))), (m_cameBy, .inl (cI, 1200, (.inl gd))), (m_next, .inl (cI, 3, (.inl (upd (upd (upd gn 0 (nI u0)) 1 (nI u1)) 2 (nI u2)))))] H := hP
        have hD : va_D A [(m0, .inr (11, [.int 0, .ref m_tape, .int 0, .int 0, .int 0, .ref m_read, .int 0, .int 0, .int 0, .ref m_tets, .int 0, .int 0, .int 0, .int 0, .int 0, .int 0, .int 0, .int 0, .ref m_primes, .ref m_often, .ref m_normal, .ref m_termM, .ref m_termP, .ref m_termV, .ref m_sumFrom, .ref m_sumMany, .int 0, .int 0, .int 0, .int 0, .ref m_part, .ref m_fair, .ref m_heap, .ref m_pickTet, .ref m_pickEdge, .ref m_base, .ref m_baseM, .ref m_baseP, .ref m_rowsOf, .int 0, .ref m_grid, .ref m_times, .ref m_boxes, .ref m_cameFrom, .ref m_cameBy, .ref m_steps, .ref m_sides, .int (nI P.length), .int (-1), .ref m_next, .ref m_cube, .ref m_ways])), (m_boxes, .inl (cI, 3600, (.inl gb))), (m_cameFrom, .inl (cI, 1200, (.inl gc))), (m_cameBy, .inl (cI, 1200, (.inl gd))), (m_next, .inl (cI, 3, (.inl (upd (upd (upd gn 0 (nI u0)) 1 (nI u1)) 2 (nI u2)))))] := hD
        refine lv_iinc (v := 3) (lv' := [(5, .int 3), (0, .ref m0), (1, .int (nI k)), (2, .int 2), (3, .int 1), (4, .int (nI n))]) hx hb dX11_goesFrom_56 hl (k := 0) rfl (by decide) (by decide) rfl (fun ls hl => ?_)
        refine lv_goto (tgt := 32) hx hb dX11_goesFrom_59 (by decide) ?_
        refine lv_iload hx hb dX11_goesFrom_32 (lv_at hl 0 rfl) ?_
        refine lv_iconst (v := 3) hx hb dX11_goesFrom_34 (by decide) ?_
        refine lv_icmp_ge (tgt := 62) hx hb dX11_goesFrom_35 (by decide) (fun _ => ?_) (fun c => absurd (by decide) c)
        refine lv_aload_n hx hb dX11_goesFrom_62 rfl (lv_at hl 1 rfl) ?_
        refine lv_iload_n hx hb dX11_goesFrom_63 rfl (lv_at hl 3 rfl) ?_
        refine lv_iload_n hx hb dX11_goesFrom_64 rfl (lv_at hl 4 rfl) ?_
        refine lv_iload hx hb dX11_goesFrom_65 (lv_at hl 5 rfl) ?_
        have hPc := hP.sub (ws' := [(m0, .inr (11, [.int 0, .ref m_tape, .int 0, .int 0, .int 0, .ref m_read, .int 0, .int 0, .int 0, .ref m_tets, .int 0, .int 0, .int 0, .int 0, .int 0, .int 0, .int 0, .int 0, .ref m_primes, .ref m_often, .ref m_normal, .ref m_termM, .ref m_termP, .ref m_termV, .ref m_sumFrom, .ref m_sumMany, .int 0, .int 0, .int 0, .int 0, .ref m_part, .ref m_fair, .ref m_heap, .ref m_pickTet, .ref m_pickEdge, .ref m_base, .ref m_baseM, .ref m_baseP, .ref m_rowsOf, .int 0, .ref m_grid, .ref m_times, .ref m_boxes, .ref m_cameFrom, .ref m_cameBy, .ref m_steps, .ref m_sides, .int (nI P.length), .int (-1), .ref m_next, .ref m_cube, .ref m_ways])), (m_next, .inl (cI, 3, (.inl (upd (upd (upd gn 0 (nI u0)) 1 (nI u1)) 2 (nI u2)))))]) [0, 4] rfl
        have hDc := hD.sub (ws' := [(m0, .inr (11, [.int 0, .ref m_tape, .int 0, .int 0, .int 0, .ref m_read, .int 0, .int 0, .int 0, .ref m_tets, .int 0, .int 0, .int 0, .int 0, .int 0, .int 0, .int 0, .int 0, .ref m_primes, .ref m_often, .ref m_normal, .ref m_termM, .ref m_termP, .ref m_termV, .ref m_sumFrom, .ref m_sumMany, .int 0, .int 0, .int 0, .int 0, .ref m_part, .ref m_fair, .ref m_heap, .ref m_pickTet, .ref m_pickEdge, .ref m_base, .ref m_baseM, .ref m_baseP, .ref m_rowsOf, .int 0, .ref m_grid, .ref m_times, .ref m_boxes, .ref m_cameFrom, .ref m_cameBy, .ref m_steps, .ref m_sides, .int (nI P.length), .int (-1), .ref m_next, .ref m_cube, .ref m_ways])), (m_next, .inl (cI, 3, (.inl (upd (upd (upd gn 0 (nI u0)) 1 (nI u1)) 2 (nI u2)))))]) [0, 4] (by decide) rfl
        have hFc := va_free (wc := [(m0, .inr (11, [.int 0, .ref m_tape, .int 0, .int 0, .int 0, .ref m_read, .int 0, .int 0, .int 0, .ref m_tets, .int 0, .int 0, .int 0, .int 0, .int 0, .int 0, .int 0, .int 0, .ref m_primes, .ref m_often, .ref m_normal, .ref m_termM, .ref m_termP, .ref m_termV, .ref m_sumFrom, .ref m_sumMany, .int 0, .int 0, .int 0, .int 0, .ref m_part, .ref m_fair, .ref m_heap, .ref m_pickTet, .ref m_pickEdge, .ref m_base, .ref m_baseM, .ref m_baseP, .ref m_rowsOf, .int 0, .ref m_grid, .ref m_times, .ref m_boxes, .ref m_cameFrom, .ref m_cameBy, .ref m_steps, .ref m_sides, .int (nI P.length), .int (-1), .ref m_next, .ref m_cube, .ref m_ways])), (m_next, .inl (cI, 3, (.inl (upd (upd (upd gn 0 (nI u0)) 1 (nI u1)) 2 (nI u2)))))]) hD hS hA [0, 4] rfl
        refine va_calli (va_runV (As := [.int 2, .int 1, .int (nI n)]) (rest := []) ⟨hx, hb, hml, hown, hts⟩ (c_X11_goes__21 l dC dI cB cI cJ H.size m0 m_tape m_read m_tets m_primes m_often m_normal m_termM m_termP m_termV m_sumFrom m_sumMany m_part m_fair m_heap m_pickTet m_pickEdge m_base m_baseM m_baseP m_rowsOf m_grid m_times m_boxes m_cameFrom m_cameBy m_steps m_sides m_next m_cube m_ways (nI P.length) (upd (upd (upd gn 0 (nI u0)) 1 (nI u1)) 2 (nI u2)) u0 u1 u2 n hu (by omega) (⟨rfl, rfl, rfl⟩)) (cwV 3 hts gX11_goesFrom_X11_goes_ rfl rfl rfl (by decide +kernel) ⟨Nat.le_of_ble_eq_true rfl, Nat.le_of_ble_eq_true rfl⟩) ⟨fun a U g mk q => by obtain ⟨q0, q1, qP, qK, qD⟩ := q; exact ⟨q0, q1, qP, va_K.moved (u := U) (U := U.calling g mk a) (Vm.Alike.refl U.vm) qK, qD⟩, va_recv hK hP (ci := 11) (q0 := 0) rfl rfl, fun U hU hW => ⟨rfl, by rw [hU], by rw [hU]; exact hPc, va_K.moved hW.alike hK, hDc.weaken (fun _ _ _ _ => trivial)⟩⟩ rfl rfl hl.1 rfl (lv_room (Nat.le_of_ble_eq_true rfl)) dX11_goesFrom_67 ⟨Nat.le_of_ble_eq_true rfl, Nat.le_of_ble_eq_true rfl⟩) hS (fun q _ h => hFc q h) hFc (fun r_11 u t H1 locs ht hvm hw hB hz1 hk1 hS => ?_)
        obtain ⟨g_12, h_13, hP1, hK1, hD1⟩ := hB
        rw [ht] at hP1
        obtain ⟨hP, hD⟩ := va_join (wr := [(m_boxes, .inl (cI, 3600, (.inl gb))), (m_cameFrom, .inl (cI, 1200, (.inl gc))), (m_cameBy, .inl (cI, 1200, (.inl gd)))]) (w1 := [(m0, .inr (11, [.int 0, .ref m_tape, .int 0, .int 0, .int 0, .ref m_read, .int 0, .int 0, .int 0, .ref m_tets, .int 0, .int 0, .int 0, .int 0, .int 0, .int 0, .int 0, .int 0, .ref m_primes, .ref m_often, .ref m_normal, .ref m_termM, .ref m_termP, .ref m_termV, .ref m_sumFrom, .ref m_sumMany, .int 0, .int 0, .int 0, .int 0, .ref m_part, .ref m_fair, .ref m_heap, .ref m_pickTet, .ref m_pickEdge, .ref m_base, .ref m_baseM, .ref m_baseP, .ref m_rowsOf, .int 0, .ref m_grid, .ref m_times, .ref m_boxes, .ref m_cameFrom, .ref m_cameBy, .ref m_steps, .ref m_sides, .int (nI P.length), .int (-1), .ref m_next, .ref m_cube, .ref m_ways])), (m_next, .inl (cI, 3, (.inl g_12)))]) hP hD [0, 4] [1, 2, 3] rfl rfl (by decide) (by decide) hk1 hFc hP1 hD1
        generalize H1 = H at hP hS ⊢
        have hP : va_P (dC, dI) vwCl [(m_boxes, .inl (cI, 3600, (.inl gb))), (m_cameFrom, .inl (cI, 1200, (.inl gc))), (m_cameBy, .inl (cI, 1200, (.inl gd))), (m0, .inr (11, [.int 0, .ref m_tape, .int 0, .int 0, .int 0, .ref m_read, .int 0, .int 0, .int 0, .ref m_tets, .int 0, .int 0, .int 0, .int 0, .int 0, .int 0, .int 0, .int 0, .ref m_primes, .ref m_often, .ref m_normal, .ref m_termM, .ref m_termP, .ref m_termV, .ref m_sumFrom, .ref m_sumMany, .int 0, .int 0, .int 0, .int 0, .ref m_part, .ref m_fair, .ref m_heap, .ref m_pickTet, .ref m_pickEdge, .ref m_base, .ref m_baseM, .ref m_baseP, .ref m_rowsOf, .int 0, .ref m_grid, .ref m_times, .ref m_boxes, .ref m_cameFrom, .ref m_cameBy, .ref m_steps, .ref m_sides, .int (nI P.length), .int (-1), .ref m_next, .ref m_cube, .ref m_ways])), (m_next, .inl (cI, 3, (.inl g_12)))] H := hP
        have hD : va_D A [(m_boxes, .inl (cI, 3600, (.inl gb))), (m_cameFrom, .inl (cI, 1200, (.inl gc))), (m_cameBy, .inl (cI, 1200, (.inl gd))), (m0, .inr (11, [.int 0, .ref m_tape, .int 0, .int 0, .int 0, .ref m_read, .int 0, .int 0, .int 0, .ref m_tets, .int 0, .int 0, .int 0, .int 0, .int 0, .int 0, .int 0, .int 0, .ref m_primes, .ref m_often, .ref m_normal, .ref m_termM, .ref m_termP, .ref m_termV, .ref m_sumFrom, .ref m_sumMany, .int 0, .int 0, .int 0, .int 0, .ref m_part, .ref m_fair, .ref m_heap, .ref m_pickTet, .ref m_pickEdge, .ref m_base, .ref m_baseM, .ref m_baseP, .ref m_rowsOf, .int 0, .ref m_grid, .ref m_times, .ref m_boxes, .ref m_cameFrom, .ref m_cameBy, .ref m_steps, .ref m_sides, .int (nI P.length), .int (-1), .ref m_next, .ref m_cube, .ref m_ways])), (m_next, .inl (cI, 3, (.inl g_12)))] := hD
        have hr_11 := hw
        rcases hr_11 with ⟨rfl, hok⟩ | ⟨rfl, hok⟩
        · have hPT : q_sees k (d + 1) (nb_n u0 u1 u2 2 1 (25 - (n + 1)) (n + 1) ++ []) P = T := (congrArg (fun L9 => q_sees k (d + 1) (L9 ++ []) P) (nb_no (x := u0) (y := u1) (z := u2) (i := 2) (j := 1) (f := 25 - (n + 1)) (n := n) hok)).symm.trans hPT
          refine lv_if_eq (tgt := 110) hx hb dX11_goesFrom_70 (by decide) (fun _ => ?_) (fun c => absurd (by decide) c)
          obtain ⟨x_14, ex_14⟩ : ∃ y : Int32, y = (nI n) + 1 := ⟨_, rfl⟩
          refine lv_iinc (v := x_14) (lv' := [(4, .int x_14), (5, .int 3), (0, .ref m0), (1, .int (nI k)), (2, .int 2), (3, .int 1)]) hx hb dX11_goesFrom_110 hl (k := 5) rfl (by rw [ex_14]; rfl) (by decide) rfl (fun ls hl => ?_)
          obtain rfl : x_14 = nI (n + 1) := ex_14.trans (nI_1 n)
          have hl : lv_has ls 6 [(4, .int (nI (n + 1))), (5, .int 3), (0, .ref m0), (1, .int (nI k)), (2, .int 2), (3, .int 1)] := hl
          refine lv_goto (tgt := 17) hx hb dX11_goesFrom_113 (by decide) ?_
          exact out _ _ _ (ih21 (n + 1) P gb gc gd _ (by omega) (by omega) (by omega) hP0 hPI hPR hPT _ _ (hP.sub [3, 0, 1, 2, 4] rfl) (hD.sub [3, 0, 1, 2, 4] (by decide) rfl) hS ls (lv_sub hl [2, 3, 4, 5, 0] rfl))
        · have hPT : q_sees k (d + 1) ((st_go u0 u1 u2 2 1 n :: nb_n u0 u1 u2 2 1 (25 - (n + 1)) (n + 1)) ++ []) P = T := (congrArg (fun L9 => q_sees k (d + 1) (L9 ++ []) P) (nb_yes (x := u0) (y := u1) (z := u2) (i := 2) (j := 1) (f := 25 - (n + 1)) (n := n) hok)).symm.trans hPT
          have hgz := h_13 hok
          have o1 : u2 % n = 0 := hok.1
          have o2 : u1 % (n - 1) = 0 := hok.2.1
          have o3 : u1 / (n - 1) * n ≤ 24 := hok.2.2
          have l1 := st_lo h6 (show 1 ≤ u2 by omega) (show u2 ≤ 24 by omega) o1
          have l2 := st_hi h6 (show 1 ≤ u1 by omega) o2
          have hgo : bx_in V (st_go u0 u1 u2 2 1 n) := st_go_in hu.1 hu.2.1 hu.2.2 hV (by decide) (by decide) (by decide) h6 (st_ok_iff.mpr hok)
          refine lv_if_eq (tgt := 110) hx hb dX11_goesFrom_70 (by decide) (fun c => absurd c (by decide)) (fun _ => ?_)
          refine lv_aload_n hx hb dX11_goesFrom_73 rfl (lv_at hl 1 rfl) ?_
          refine lv_aload_n hx hb dX11_goesFrom_74 rfl (lv_at hl 1 rfl) ?_
          refine va_get (D := (dC, dI)) (ci := 11) (v := .ref m_next) (C := RX11) (T := TX11) (N := 52) hx hb hts hiX11 hown hK hP 3 rfl rfl 49 (by decide) (hts (.fieldLink RX11 97 "ScissorsTableModel" "next" "[I") (by decide +kernel)) (fun _ h9 => h9) rfl dX11_goesFrom_75 ?_
          refine lv_iconst (v := 0) hx hb dX11_goesFrom_78 (by decide) ?_
          refine va_iald hx hb hK hP 4 1 rfl rfl (by show ¬ (_ ∨ _); decide) dX11_goesFrom_79 ?_
          refine lv_topi (fun x_15 ex_15 => ?_)
          have ex_15 : x_15 = g_12 0 := ex_15
          obtain rfl : x_15 = nI (u0) := ex_15.trans hgz.1
          refine lv_aload_n hx hb dX11_goesFrom_80 rfl (lv_at hl 1 rfl) ?_
          refine va_get (D := (dC, dI)) (ci := 11) (v := .ref m_next) (C := RX11) (T := TX11) (N := 52) hx hb hts hiX11 hown hK hP 3 rfl rfl 49 (by decide) (hts (.fieldLink RX11 97 "ScissorsTableModel" "next" "[I") (by decide +kernel)) (fun _ h9 => h9) rfl dX11_goesFrom_81 ?_
          refine lv_iconst (v := 1) hx hb dX11_goesFrom_84 (by decide) ?_
          refine va_iald hx hb hK hP 4 1 rfl rfl (by show ¬ (_ ∨ _); decide) dX11_goesFrom_85 ?_
          refine lv_topi (fun x_16 ex_16 => ?_)
          have ex_16 : x_16 = g_12 1 := ex_16
          obtain rfl : x_16 = nI (u1 / (n - 1) * n) := ex_16.trans hgz.2.1
          refine lv_aload_n hx hb dX11_goesFrom_86 rfl (lv_at hl 1 rfl) ?_
          refine va_get (D := (dC, dI)) (ci := 11) (v := .ref m_next) (C := RX11) (T := TX11) (N := 52) hx hb hts hiX11 hown hK hP 3 rfl rfl 49 (by decide) (hts (.fieldLink RX11 97 "ScissorsTableModel" "next" "[I") (by decide +kernel)) (fun _ h9 => h9) rfl dX11_goesFrom_87 ?_
          refine lv_iconst (v := 2) hx hb dX11_goesFrom_90 (by decide) ?_
          refine va_iald hx hb hK hP 4 1 rfl rfl (by show ¬ (_ ∨ _); decide) dX11_goesFrom_91 ?_
          refine lv_topi (fun x_17 ex_17 => ?_)
          have ex_17 : x_17 = g_12 2 := ex_17
          obtain rfl : x_17 = nI (u2 / n * (n - 1)) := ex_17.trans hgz.2.2
          refine lv_iload_n hx hb dX11_goesFrom_92 rfl (lv_at hl 2 rfl) ?_
          refine lv_bipush (v := 72) hx hb dX11_goesFrom_93 (by decide) ?_
          refine lv_iload_n hx hb dX11_goesFrom_95 rfl (lv_at hl 3 rfl) ?_
          refine lv_imul hx hb dX11_goesFrom_96 ?_
          refine lv_topi (fun x_18 ex_18 => ?_)
          obtain rfl : x_18 = 144 := ex_18.trans (by first | rfl | decide)
          refine lv_bipush (v := 24) hx hb dX11_goesFrom_97 (by decide) ?_
          refine lv_iload_n hx hb dX11_goesFrom_99 rfl (lv_at hl 4 rfl) ?_
          refine lv_imul hx hb dX11_goesFrom_100 ?_
          refine lv_topi (fun x_19 ex_19 => ?_)
          obtain rfl : x_19 = 24 := ex_19.trans (by first | rfl | decide)
          refine lv_iadd hx hb dX11_goesFrom_101 ?_
          refine lv_topi (fun x_20 ex_20 => ?_)
          obtain rfl : x_20 = 168 := ex_20.trans (by first | rfl | decide)
          refine lv_iload hx hb dX11_goesFrom_102 (lv_at hl 5 rfl) ?_
          refine lv_iadd hx hb dX11_goesFrom_104 ?_
          refine lv_topi (fun x_21 ex_21 => ?_)
          obtain rfl : x_21 = nI (168 + n) := ex_21.trans (nI_add 168 n)
          refine lv_iconst (v := 1) hx hb dX11_goesFrom_105 (by decide) ?_
          refine lv_isub hx hb dX11_goesFrom_106 ?_
          refine lv_topi (fun x_22 ex_22 => ?_)
          obtain rfl : x_22 = nI ((168 + n) - 1) := ex_22.trans (pk_sub (a := 168 + n) (b := 1) (by omega))
          have hvv : u0 * (u1 / (n - 1) * n) * (u2 / n * (n - 1)) = V := by
            obtain ⟨s0, s1, s2, g0, g1, g2, g3, g4⟩ := hgo
            have g4 : bx_mk u0 (u1 / (n - 1) * n) (u2 / n * (n - 1)) = bx_mk s0 s1 s2 := g4
            have g5 := bx_mk_inj g4 (by omega)
            rw [g5.1, g5.2.1, g5.2.2]
            exact g3
          have hPc := hP.sub (ws' := [(m0, .inr (11, [.int 0, .ref m_tape, .int 0, .int 0, .int 0, .ref m_read, .int 0, .int 0, .int 0, .ref m_tets, .int 0, .int 0, .int 0, .int 0, .int 0, .int 0, .int 0, .int 0, .ref m_primes, .ref m_often, .ref m_normal, .ref m_termM, .ref m_termP, .ref m_termV, .ref m_sumFrom, .ref m_sumMany, .int 0, .int 0, .int 0, .int 0, .ref m_part, .ref m_fair, .ref m_heap, .ref m_pickTet, .ref m_pickEdge, .ref m_base, .ref m_baseM, .ref m_baseP, .ref m_rowsOf, .int 0, .ref m_grid, .ref m_times, .ref m_boxes, .ref m_cameFrom, .ref m_cameBy, .ref m_steps, .ref m_sides, .int (nI P.length), .int (-1), .ref m_next, .ref m_cube, .ref m_ways])), (m_boxes, .inl (cI, 3600, (.inl gb))), (m_cameFrom, .inl (cI, 1200, (.inl gc))), (m_cameBy, .inl (cI, 1200, (.inl gd)))]) [3, 0, 1, 2] rfl
          have hDc := hD.sub (ws' := [(m0, .inr (11, [.int 0, .ref m_tape, .int 0, .int 0, .int 0, .ref m_read, .int 0, .int 0, .int 0, .ref m_tets, .int 0, .int 0, .int 0, .int 0, .int 0, .int 0, .int 0, .int 0, .ref m_primes, .ref m_often, .ref m_normal, .ref m_termM, .ref m_termP, .ref m_termV, .ref m_sumFrom, .ref m_sumMany, .int 0, .int 0, .int 0, .int 0, .ref m_part, .ref m_fair, .ref m_heap, .ref m_pickTet, .ref m_pickEdge, .ref m_base, .ref m_baseM, .ref m_baseP, .ref m_rowsOf, .int 0, .ref m_grid, .ref m_times, .ref m_boxes, .ref m_cameFrom, .ref m_cameBy, .ref m_steps, .ref m_sides, .int (nI P.length), .int (-1), .ref m_next, .ref m_cube, .ref m_ways])), (m_boxes, .inl (cI, 3600, (.inl gb))), (m_cameFrom, .inl (cI, 1200, (.inl gc))), (m_cameBy, .inl (cI, 1200, (.inl gd)))]) [3, 0, 1, 2] (by decide) rfl
          have hFc := va_free (wc := [(m0, .inr (11, [.int 0, .ref m_tape, .int 0, .int 0, .int 0, .ref m_read, .int 0, .int 0, .int 0, .ref m_tets, .int 0, .int 0, .int 0, .int 0, .int 0, .int 0, .int 0, .int 0, .ref m_primes, .ref m_often, .ref m_normal, .ref m_termM, .ref m_termP, .ref m_termV, .ref m_sumFrom, .ref m_sumMany, .int 0, .int 0, .int 0, .int 0, .ref m_part, .ref m_fair, .ref m_heap, .ref m_pickTet, .ref m_pickEdge, .ref m_base, .ref m_baseM, .ref m_baseP, .ref m_rowsOf, .int 0, .ref m_grid, .ref m_times, .ref m_boxes, .ref m_cameFrom, .ref m_cameBy, .ref m_steps, .ref m_sides, .int (nI P.length), .int (-1), .ref m_next, .ref m_cube, .ref m_ways])), (m_boxes, .inl (cI, 3600, (.inl gb))), (m_cameFrom, .inl (cI, 1200, (.inl gc))), (m_cameBy, .inl (cI, 1200, (.inl gd)))]) hD hS hA [3, 0, 1, 2] rfl
          refine va_callv (va_runV (As := [.int (nI (u0)), .int (nI (u1 / (n - 1) * n)), .int (nI (u2 / n * (n - 1))), .int (nI k), .int (nI ((168 + n) - 1))]) (rest := []) ⟨hx, hb, hml, hown, hts⟩ (c_X11_meetsBox l dC dI cB cI cJ H.size m0 m_tape m_read m_tets m_primes m_often m_normal m_termM m_termP m_termV m_sumFrom m_sumMany m_part m_fair m_heap m_pickTet m_pickEdge m_base m_baseM m_baseP m_rowsOf m_grid m_times m_boxes m_cameFrom m_cameBy m_steps m_sides m_next m_cube m_ways P gb gc gd V u0 (u1 / (n - 1) * n) (u2 / n * (n - 1)) k (d + 1) (nI k) (nI ((168 + n) - 1)) (by omega) hvv hPI hPR (by omega) ((if_neg (by omega)).symm)) (cwV 5 hts gX11_goesFrom_X11_meetsBox rfl rfl rfl (by decide +kernel) ⟨Nat.le_of_ble_eq_true rfl, Nat.le_of_ble_eq_true rfl⟩) ⟨fun a U g mk q => by obtain ⟨q0, q1, qP, qK, qD⟩ := q; exact ⟨q0, q1, qP, va_K.moved (u := U) (U := U.calling g mk a) (Vm.Alike.refl U.vm) qK, qD⟩, va_recv hK hP (ci := 11) (q0 := 3) rfl rfl, fun U hU hW => ⟨rfl, by rw [hU], by rw [hU]; exact hPc, va_K.moved hW.alike hK, hDc.weaken (fun _ _ _ _ => trivial)⟩⟩ rfl rfl hl.1 rfl (lv_room (Nat.le_of_ble_eq_true rfl)) dX11_goesFrom_107 ⟨Nat.le_of_ble_eq_true rfl, Nat.le_of_ble_eq_true rfl⟩) hS (fun q _ h => hFc q h) hFc (fun u t H1 locs ht hvm hw hB hz1 hk1 hS => ?_)
          obtain ⟨g_23, g_24, g_25, h_26, hP1, hK1, hD1⟩ := hB
          rw [ht] at hP1
          obtain ⟨hP, hD⟩ := va_join (wr := [(m_next, .inl (cI, 3, (.inl g_12)))]) (w1 := [(m0, .inr (11, [.int 0, .ref m_tape, .int 0, .int 0, .int 0, .ref m_read, .int 0, .int 0, .int 0, .ref m_tets, .int 0, .int 0, .int 0, .int 0, .int 0, .int 0, .int 0, .int 0, .ref m_primes, .ref m_often, .ref m_normal, .ref m_termM, .ref m_termP, .ref m_termV, .ref m_sumFrom, .ref m_sumMany, .int 0, .int 0, .int 0, .int 0, .ref m_part, .ref m_fair, .ref m_heap, .ref m_pickTet, .ref m_pickEdge, .ref m_base, .ref m_baseM, .ref m_baseP, .ref m_rowsOf, .int 0, .ref m_grid, .ref m_times, .ref m_boxes, .ref m_cameFrom, .ref m_cameBy, .ref m_steps, .ref m_sides, .int (nI (q_see P k (d + 1) (bx_mk u0 (u1 / (n - 1) * n) (u2 / n * (n - 1)))).length), .int (-1), .ref m_next, .ref m_cube, .ref m_ways])), (m_boxes, .inl (cI, 3600, (.inl g_23))), (m_cameFrom, .inl (cI, 1200, (.inl g_24))), (m_cameBy, .inl (cI, 1200, (.inl g_25)))]) hP hD [3, 0, 1, 2] [4] rfl rfl (by decide) (by decide) hk1 hFc hP1 hD1
          generalize H1 = H at hP hS ⊢
          have hP : va_P (dC, dI) vwCl [(m_next, .inl (cI, 3, (.inl g_12))), (m0, .inr (11, [.int 0, .ref m_tape, .int 0, .int 0, .int 0, .ref m_read, .int 0, .int 0, .int 0, .ref m_tets, .int 0, .int 0, .int 0, .int 0, .int 0, .int 0, .int 0, .int 0, .ref m_primes, .ref m_often, .ref m_normal, .ref m_termM, .ref m_termP, .ref m_termV, .ref m_sumFrom, .ref m_sumMany, .int 0, .int 0, .int 0, .int 0, .ref m_part, .ref m_fair, .ref m_heap, .ref m_pickTet, .ref m_pickEdge, .ref m_base, .ref m_baseM, .ref m_baseP, .ref m_rowsOf, .int 0, .ref m_grid, .ref m_times, .ref m_boxes, .ref m_cameFrom, .ref m_cameBy, .ref m_steps, .ref m_sides, .int (nI (q_see P k (d + 1) (bx_mk u0 (u1 / (n - 1) * n) (u2 / n * (n - 1)))).length), .int (-1), .ref m_next, .ref m_cube, .ref m_ways])), (m_boxes, .inl (cI, 3600, (.inl g_23))), (m_cameFrom, .inl (cI, 1200, (.inl g_24))), (m_cameBy, .inl (cI, 1200, (.inl g_25)))] H := hP
          have hD : va_D A [(m_next, .inl (cI, 3, (.inl g_12))), (m0, .inr (11, [.int 0, .ref m_tape, .int 0, .int 0, .int 0, .ref m_read, .int 0, .int 0, .int 0, .ref m_tets, .int 0, .int 0, .int 0, .int 0, .int 0, .int 0, .int 0, .int 0, .ref m_primes, .ref m_often, .ref m_normal, .ref m_termM, .ref m_termP, .ref m_termV, .ref m_sumFrom, .ref m_sumMany, .int 0, .int 0, .int 0, .int 0, .ref m_part, .ref m_fair, .ref m_heap, .ref m_pickTet, .ref m_pickEdge, .ref m_base, .ref m_baseM, .ref m_baseP, .ref m_rowsOf, .int 0, .ref m_grid, .ref m_times, .ref m_boxes, .ref m_cameFrom, .ref m_cameBy, .ref m_steps, .ref m_sides, .int (nI (q_see P k (d + 1) (bx_mk u0 (u1 / (n - 1) * n) (u2 / n * (n - 1)))).length), .int (-1), .ref m_next, .ref m_cube, .ref m_ways])), (m_boxes, .inl (cI, 3600, (.inl g_23))), (m_cameFrom, .inl (cI, 1200, (.inl g_24))), (m_cameBy, .inl (cI, 1200, (.inl g_25)))] := hD
          have hPT : q_sees k (d + 1) (nb_n u0 u1 u2 2 1 (25 - (n + 1)) (n + 1) ++ []) (q_see P k (d + 1) (bx_mk u0 (u1 / (n - 1) * n) (u2 / n * (n - 1)))) = T := hPT
          obtain ⟨x_27, ex_27⟩ : ∃ y : Int32, y = (nI n) + 1 := ⟨_, rfl⟩
          refine lv_iinc (v := x_27) (lv' := [(4, .int x_27), (5, .int 3), (0, .ref m0), (1, .int (nI k)), (2, .int 2), (3, .int 1)]) hx hb dX11_goesFrom_110 hl (k := 5) rfl (by rw [ex_27]; rfl) (by decide) rfl (fun ls hl => ?_)
          obtain rfl : x_27 = nI (n + 1) := ex_27.trans (nI_1 n)
          have hl : lv_has ls 6 [(4, .int (nI (n + 1))), (5, .int 3), (0, .ref m0), (1, .int (nI k)), (2, .int 2), (3, .int 1)] := hl
          refine lv_goto (tgt := 17) hx hb dX11_goesFrom_113 (by decide) ?_
          exact out _ _ _ (ih21 (n + 1) _ _ _ _ _ (by omega) (by omega) (by omega) (q_pre_at (q_see_pre P k (d + 1) (bx_mk u0 (u1 / (n - 1) * n) (u2 / n * (n - 1)))) hP0) (q_in_add hPI hgo) h_26 hPT _ _ (hP.sub [1, 2, 3, 4, 0] rfl) (hD.sub [1, 2, 3, 4, 0] (by decide) rfl) hS ls (lv_sub hl [2, 3, 4, 5, 0] rfl))
  have loop20 : ∀ (f20 : Nat) (n : Nat) (P : List qE) (gb : Nat → Int32) (gc : Nat → Int32) (gd : Nat → Int32) (gn : Nat → Int32) (h5 : n + f20 = 26) (h6 : 2 ≤ n) (h7 : n ≤ 25) (hP0 : P[k]? = some (bx_mk u0 u1 u2, pk, d)) (hPI : q_in V P) (hPR : RR P gb gc) (hPT : q_sees k (d + 1) (nb_n u0 u1 u2 2 0 (25 - n) n ++ (nb_n u0 u1 u2 2 1 23 2 ++ [])) P = T) (H : Heap) (locs : List Loc) (_ : va_P (dC, dI) vwCl [(m0, .inr (11, [.int 0, .ref m_tape, .int 0, .int 0, .int 0, .ref m_read, .int 0, .int 0, .int 0, .ref m_tets, .int 0, .int 0, .int 0, .int 0, .int 0, .int 0, .int 0, .int 0, .ref m_primes, .ref m_often, .ref m_normal, .ref m_termM, .ref m_termP, .ref m_termV, .ref m_sumFrom, .ref m_sumMany, .int 0, .int 0, .int 0, .int 0, .ref m_part, .ref m_fair, .ref m_heap, .ref m_pickTet, .ref m_pickEdge, .ref m_base, .ref m_baseM, .ref m_baseP, .ref m_rowsOf, .int 0, .ref m_grid, .ref m_times, .ref m_boxes, .ref m_cameFrom, .ref m_cameBy, .ref m_steps, .ref m_sides, .int (nI P.length), .int (-1), .ref m_next, .ref m_cube, .ref m_ways])), (m_boxes, .inl (cI, 3600, (.inl gb))), (m_cameFrom, .inl (cI, 1200, (.inl gc))), (m_cameBy, .inl (cI, 1200, (.inl gd))), (m_next, .inl (cI, 3, (.inl gn)))] H) (_ : va_D A [(m0, .inr (11, [.int 0, .ref m_tape, .int 0, .int 0, .int 0, .ref m_read, .int 0, .int 0, .int 0, .ref m_tets, .int 0, .int 0, .int 0, .int 0, .int 0, .int 0, .int 0, .int 0, .ref m_primes, .ref m_often, .ref m_normal, .ref m_termM, .ref m_termP, .ref m_termV, .ref m_sumFrom, .ref m_sumMany, .int 0, .int 0, .int 0, .int 0, .ref m_part, .ref m_fair, .ref m_heap, .ref m_pickTet, .ref m_pickEdge, .ref m_base, .ref m_baseM, .ref m_baseP, .ref m_rowsOf, .int 0, .ref m_grid, .ref m_times, .ref m_boxes, .ref m_cameFrom, .ref m_cameBy, .ref m_steps, .ref m_sides, .int (nI P.length), .int (-1), .ref m_next, .ref m_cube, .ref m_ways])), (m_boxes, .inl (cI, 3600, (.inl gb))), (m_cameFrom, .inl (cI, 1200, (.inl gc))), (m_cameBy, .inl (cI, 1200, (.inl gd))), (m_next, .inl (cI, 3, (.inl gn)))]) (_ : va_S A s.heap H locs) (ls : Array Slot) (_ : lv_has ls 6 [(0, .ref m0), (1, .int (nI k)), (2, .int 2), (3, .int 0), (4, .int (nI n))]), G H locs (F0 m 17 ls []) := by
    intro f20
    induction f20 with
    | zero =>
      intro n P gb gc gd gn h5 h6 h7 hP0 hPI hPR hPT H locs hP hD hS ls hl
      exfalso; omega
    | succ f20 ih20 =>
      intro n P gb gc gd gn h5 h6 h7 hP0 hPI hPR hPT H locs hP hD hS ls hl
      refine inn _ _ _ ?_
      have hPl : P.length ≤ 96 := Nat.le_trans (q_pre_len (hPT ▸ q_sees_pre k (d + 1) (nb_n u0 u1 u2 2 0 (25 - n) n ++ (nb_n u0 u1 u2 2 1 23 2 ++ [])) P)) hTl
      have hkl := q_lt hP0
      refine lv_iload hx hb dX11_goesFrom_17 (lv_at hl 4 rfl) ?_
      refine lv_bipush (v := 24) hx hb dX11_goesFrom_19 (by decide) ?_
      refine lv_icmp_gt (tgt := 116) hx hb dX11_goesFrom_21 (by decide) (fun c_28 => ?_) (fun c_28 => ?_)
      · have c_28 : 24 < n := (nI_ltI (a := 24) (b := n) (by omega) (by omega)).mp c_28
        have hPT : q_sees k (d + 1) (nb_n u0 u1 u2 2 1 23 2 ++ []) P = T := by
          rw [show 25 - n = 0 by omega] at hPT
          exact hPT
        refine lv_iinc (v := 1) (lv' := [(3, .int 1), (0, .ref m0), (1, .int (nI k)), (2, .int 2), (4, .int (nI n))]) hx hb dX11_goesFrom_116 hl (k := 3) rfl (by decide) (by decide) rfl (fun ls hl => ?_)
        refine lv_goto (tgt := 9) hx hb dX11_goesFrom_119 (by decide) ?_
        refine lv_iload_n hx hb dX11_goesFrom_9 rfl (lv_at hl 0 rfl) ?_
        refine lv_iconst (v := 3) hx hb dX11_goesFrom_10 (by decide) ?_
        refine lv_icmp_ge (tgt := 122) hx hb dX11_goesFrom_11 (by decide) (fun c => absurd c (by decide)) (fun _ => ?_)
        refine lv_iconst (v := 2) hx hb dX11_goesFrom_14 (by decide) ?_
        refine lv_istore (lv' := [(4, .int 2), (3, .int 1), (0, .ref m0), (1, .int (nI k)), (2, .int 2)]) hx hb dX11_goesFrom_15 hl (by decide) rfl (fun ls hl => ?_)
        exact out _ _ _ (loop21 24 2 P gb gc gd _ rfl (by omega) (by omega) hP0 hPI hPR hPT _ _ (hP.sub [0, 1, 2, 3, 4] rfl) (hD.sub [0, 1, 2, 3, 4] (by decide) rfl) hS ls (lv_sub hl [2, 3, 4, 1, 0] rfl))
      · have c_28 : ¬ 24 < n := fun q9 => c_28 ((nI_ltI (a := 24) (b := n) (by omega) (by omega)).mpr q9)
        rw [show 25 - n = (25 - (n + 1)) + 1 by omega] at hPT
        refine lv_iload_n hx hb dX11_goesFrom_24 rfl (lv_at hl 2 rfl) ?_
        refine lv_iload_n hx hb dX11_goesFrom_25 rfl (lv_at hl 3 rfl) ?_
        refine lv_icmp_eq (tgt := 116) hx hb dX11_goesFrom_26 (by decide) (fun c => absurd c (by decide)) (fun _ => ?_)
        refine lv_iconst (v := 0) hx hb dX11_goesFrom_29 (by decide) ?_
        refine lv_istore (lv' := [(5, .int 0), (0, .ref m0), (1, .int (nI k)), (2, .int 2), (3, .int 0), (4, .int (nI n))]) hx hb dX11_goesFrom_30 hl (by decide) rfl (fun ls hl => ?_)
        refine lv_iload hx hb dX11_goesFrom_32 (lv_at hl 0 rfl) ?_
        refine lv_iconst (v := 3) hx hb dX11_goesFrom_34 (by decide) ?_
        refine lv_icmp_ge (tgt := 62) hx hb dX11_goesFrom_35 (by decide) (fun c => absurd c (by decide)) (fun _ => ?_)
        refine lv_aload_n hx hb dX11_goesFrom_38 rfl (lv_at hl 1 rfl) ?_
        refine va_get (D := (dC, dI)) (ci := 11) (v := .ref m_next) (C := RX11) (T := TX11) (N := 52) hx hb hts hiX11 hown hK hP 0 rfl rfl 49 (by decide) (hts (.fieldLink RX11 97 "ScissorsTableModel" "next" "[I") (by decide +kernel)) (fun _ h9 => h9) rfl dX11_goesFrom_39 ?_
        refine lv_iload hx hb dX11_goesFrom_42 (lv_at hl 0 rfl) ?_
        refine lv_aload_n hx hb dX11_goesFrom_44 rfl (lv_at hl 1 rfl) ?_
        refine va_get (D := (dC, dI)) (ci := 11) (v := .ref m_boxes) (C := RX11) (T := TX11) (N := 52) hx hb hts hiX11 hown hK hP 0 rfl rfl 42 (by decide) (hts (.fieldLink RX11 78 "ScissorsTableModel" "boxes" "[I") (by decide +kernel)) (fun _ h9 => h9) rfl dX11_goesFrom_45 ?_
        refine lv_iconst (v := 3) hx hb dX11_goesFrom_48 (by decide) ?_
        refine lv_iload_n hx hb dX11_goesFrom_49 rfl (lv_at hl 2 rfl) ?_
        refine lv_imul hx hb dX11_goesFrom_50 ?_
        refine lv_topi (fun x_29 ex_29 => ?_)
        obtain rfl : x_29 = nI (3 * k) := ex_29.trans (pk_mul 3 k)
        refine lv_iload hx hb dX11_goesFrom_51 (lv_at hl 0 rfl) ?_
        refine lv_iadd hx hb dX11_goesFrom_53 ?_
        refine lv_topi (fun x_30 ex_30 => ?_)
        obtain rfl : x_30 = nI ((3 * k) + 0) := ex_30.trans (nI_add (3 * k) 0)
        refine va_iald hx hb hK hP 1 1 rfl rfl (vp_in_nI (by omega) (by decide)) dX11_goesFrom_54 ?_
        refine lv_topi (fun x_31 ex_31 => ?_)
        rw [nI_clamp (show (3 * k) + 0 < 2 ^ 31 by omega)] at ex_31
        obtain rfl : x_31 = nI u0 := ex_31.trans ((hPR k _ hP0).1.trans (congrArg nI (bx_x (by omega) (by omega))))
        refine va_iast hx hb hK hP hD hS 4 1 rfl rfl (by show ¬ (_ ∨ _); decide) dX11_goesFrom_55 (fun H locs hP hD hS => ?_)
        rw [show (0 : Int32).toNatClampNeg = 0 from rfl] at hP hD
        have hP : va_P (dC, dI) vwCl [(m0, .inr (11, [.int 0, .ref m_tape, .int 0, .int 0, .int 0, .ref m_read, .int 0, .int 0, .int 0, .ref m_tets, .int 0, .int 0, .int 0, .int 0, .int 0, .int 0, .int 0, .int 0, .ref m_primes, .ref m_often, .ref m_normal, .ref m_termM, .ref m_termP, .ref m_termV, .ref m_sumFrom, .ref m_sumMany, .int 0, .int 0, .int 0, .int 0, .ref m_part, .ref m_fair, .ref m_heap, .ref m_pickTet, .ref m_pickEdge, .ref m_base, .ref m_baseM, .ref m_baseP, .ref m_rowsOf, .int 0, .ref m_grid, .ref m_times, .ref m_boxes, .ref m_cameFrom, .ref m_cameBy, .ref m_steps, .ref m_sides, .int (nI P.length), .int (-1), .ref m_next, .ref m_cube, .ref m_ways])), (m_boxes, .inl (cI, 3600, (.inl gb))), (m_cameFrom, .inl (cI, 1200, (.inl gc))), (m_cameBy, .inl (cI, 1200, (.inl gd))), (m_next, .inl (cI, 3, (.inl (upd gn 0 (nI u0)))))] H := hP
        have hD : va_D A [(m0, .inr (11, [.int 0, .ref m_tape, .int 0, .int 0, .int 0, .ref m_read, .int 0, .int 0, .int 0, .ref m_tets, .int 0, .int 0, .int 0, .int 0, .int 0, .int 0, .int 0, .int 0, .ref m_primes, .ref m_often, .ref m_normal, .ref m_termM, .ref m_termP, .ref m_termV, .ref m_sumFrom, .ref m_sumMany, .int 0, .int 0, .int 0, .int 0, .ref m_part, .ref m_fair, .ref m_heap, .ref m_pickTet, .ref m_pickEdge, .ref m_base, .ref m_baseM, .ref m_baseP, .ref m_rowsOf, .int 0, .ref m_grid, .ref m_times, .ref m_boxes, .ref m_cameFrom, .ref m_cameBy, .ref m_steps, .ref m_sides, .int (nI P.length), .int (-1), .ref m_next, .ref m_cube, .ref m_ways])), (m_boxes, .inl (cI, 3600, (.inl gb))), (m_cameFrom, .inl (cI, 1200, (.inl gc))), (m_cameBy, .inl (cI, 1200, (.inl gd))), (m_next, .inl (cI, 3, (.inl (upd gn 0 (nI u0)))))] := hD
        refine lv_iinc (v := 1) (lv' := [(5, .int 1), (0, .ref m0), (1, .int (nI k)), (2, .int 2), (3, .int 0), (4, .int (nI n))]) hx hb dX11_goesFrom_56 hl (k := 0) rfl (by decide) (by decide) rfl (fun ls hl => ?_)
        refine lv_goto (tgt := 32) hx hb dX11_goesFrom_59 (by decide) ?_
        refine lv_iload hx hb dX11_goesFrom_32 (lv_at hl 0 rfl) ?_
        refine lv_iconst (v := 3) hx hb dX11_goesFrom_34 (by decide) ?_
        refine lv_icmp_ge (tgt := 62) hx hb dX11_goesFrom_35 (by decide) (fun c => absurd c (by decide)) (fun _ => ?_)
        refine lv_aload_n hx hb dX11_goesFrom_38 rfl (lv_at hl 1 rfl) ?_
        refine va_get (D := (dC, dI)) (ci := 11) (v := .ref m_next) (C := RX11) (T := TX11) (N := 52) hx hb hts hiX11 hown hK hP 0 rfl rfl 49 (by decide) (hts (.fieldLink RX11 97 "ScissorsTableModel" "next" "[I") (by decide +kernel)) (fun _ h9 => h9) rfl dX11_goesFrom_39 ?_
        refine lv_iload hx hb dX11_goesFrom_42 (lv_at hl 0 rfl) ?_
        refine lv_aload_n hx hb dX11_goesFrom_44 rfl (lv_at hl 1 rfl) ?_
        refine va_get (D := (dC, dI)) (ci := 11) (v := .ref m_boxes) (C := RX11) (T := TX11) (N := 52) hx hb hts hiX11 hown hK hP 0 rfl rfl 42 (by decide) (hts (.fieldLink RX11 78 "ScissorsTableModel" "boxes" "[I") (by decide +kernel)) (fun _ h9 => h9) rfl dX11_goesFrom_45 ?_
        refine lv_iconst (v := 3) hx hb dX11_goesFrom_48 (by decide) ?_
        refine lv_iload_n hx hb dX11_goesFrom_49 rfl (lv_at hl 2 rfl) ?_
        refine lv_imul hx hb dX11_goesFrom_50 ?_
        refine lv_topi (fun x_32 ex_32 => ?_)
        obtain rfl : x_32 = nI (3 * k) := ex_32.trans (pk_mul 3 k)
        refine lv_iload hx hb dX11_goesFrom_51 (lv_at hl 0 rfl) ?_
        refine lv_iadd hx hb dX11_goesFrom_53 ?_
        refine lv_topi (fun x_33 ex_33 => ?_)
        obtain rfl : x_33 = nI ((3 * k) + 1) := ex_33.trans (nI_add (3 * k) 1)
        refine va_iald hx hb hK hP 1 1 rfl rfl (vp_in_nI (by omega) (by decide)) dX11_goesFrom_54 ?_
        refine lv_topi (fun x_34 ex_34 => ?_)
        rw [nI_clamp (show (3 * k) + 1 < 2 ^ 31 by omega)] at ex_34
        obtain rfl : x_34 = nI u1 := ex_34.trans ((hPR k _ hP0).2.1.trans (congrArg nI (bx_y (by omega) (by omega))))
        refine va_iast hx hb hK hP hD hS 4 1 rfl rfl (by show ¬ (_ ∨ _); decide) dX11_goesFrom_55 (fun H locs hP hD hS => ?_)
        rw [show (1 : Int32).toNatClampNeg = 1 from rfl] at hP hD
        have hP : va_P (dC, dI) vwCl [(m0, .inr (11, [.int 0, .ref m_tape, .int 0, .int 0, .int 0, .ref m_read, .int 0, .int 0, .int 0, .ref m_tets, .int 0, .int 0, .int 0, .int 0, .int 0, .int 0, .int 0, .int 0, .ref m_primes, .ref m_often, .ref m_normal, .ref m_termM, .ref m_termP, .ref m_termV, .ref m_sumFrom, .ref m_sumMany, .int 0, .int 0, .int 0, .int 0, .ref m_part, .ref m_fair, .ref m_heap, .ref m_pickTet, .ref m_pickEdge, .ref m_base, .ref m_baseM, .ref m_baseP, .ref m_rowsOf, .int 0, .ref m_grid, .ref m_times, .ref m_boxes, .ref m_cameFrom, .ref m_cameBy, .ref m_steps, .ref m_sides, .int (nI P.length), .int (-1), .ref m_next, .ref m_cube, .ref m_ways])), (m_boxes, .inl (cI, 3600, (.inl gb))), (m_cameFrom, .inl (cI, 1200, (.inl gc))), (m_cameBy, .inl (cI, 1200, (.inl gd))), (m_next, .inl (cI, 3, (.inl (upd (upd gn 0 (nI u0)) 1 (nI u1)))))] H := hP
        have hD : va_D A [(m0, .inr (11, [.int 0, .ref m_tape, .int 0, .int 0, .int 0, .ref m_read, .int 0, .int 0, .int 0, .ref m_tets, .int 0, .int 0, .int 0, .int 0, .int 0, .int 0, .int 0, .int 0, .ref m_primes, .ref m_often, .ref m_normal, .ref m_termM, .ref m_termP, .ref m_termV, .ref m_sumFrom, .ref m_sumMany, .int 0, .int 0, .int 0, .int 0, .ref m_part, .ref m_fair, .ref m_heap, .ref m_pickTet, .ref m_pickEdge, .ref m_base, .ref m_baseM, .ref m_baseP, .ref m_rowsOf, .int 0, .ref m_grid, .ref m_times, .ref m_boxes, .ref m_cameFrom, .ref m_cameBy, .ref m_steps, .ref m_sides, .int (nI P.length), .int (-1), .ref m_next, .ref m_cube, .ref m_ways])), (m_boxes, .inl (cI, 3600, (.inl gb))), (m_cameFrom, .inl (cI, 1200, (.inl gc))), (m_cameBy, .inl (cI, 1200, (.inl gd))), (m_next, .inl (cI, 3, (.inl (upd (upd gn 0 (nI u0)) 1 (nI u1)))))] := hD
        refine lv_iinc (v := 2) (lv' := [(5, .int 2), (0, .ref m0), (1, .int (nI k)), (2, .int 2), (3, .int 0), (4, .int (nI n))]) hx hb dX11_goesFrom_56 hl (k := 0) rfl (by decide) (by decide) rfl (fun ls hl => ?_)
        refine lv_goto (tgt := 32) hx hb dX11_goesFrom_59 (by decide) ?_
        refine lv_iload hx hb dX11_goesFrom_32 (lv_at hl 0 rfl) ?_
        refine lv_iconst (v := 3) hx hb dX11_goesFrom_34 (by decide) ?_
        refine lv_icmp_ge (tgt := 62) hx hb dX11_goesFrom_35 (by decide) (fun c => absurd c (by decide)) (fun _ => ?_)
        refine lv_aload_n hx hb dX11_goesFrom_38 rfl (lv_at hl 1 rfl) ?_
        refine va_get (D := (dC, dI)) (ci := 11) (v := .ref m_next) (C := RX11) (T := TX11) (N := 52) hx hb hts hiX11 hown hK hP 0 rfl rfl 49 (by decide) (hts (.fieldLink RX11 97 "ScissorsTableModel" "next" "[I") (by decide +kernel)) (fun _ h9 => h9) rfl dX11_goesFrom_39 ?_
        refine lv_iload hx hb dX11_goesFrom_42 (lv_at hl 0 rfl) ?_
        refine lv_aload_n hx hb dX11_goesFrom_44 rfl (lv_at hl 1 rfl) ?_
        refine va_get (D := (dC, dI)) (ci := 11) (v := .ref m_boxes) (C := RX11) (T := TX11) (N := 52) hx hb hts hiX11 hown hK hP 0 rfl rfl 42 (by decide) (hts (.fieldLink RX11 78 "ScissorsTableModel" "boxes" "[I") (by decide +kernel)) (fun _ h9 => h9) rfl dX11_goesFrom_45 ?_
        refine lv_iconst (v := 3) hx hb dX11_goesFrom_48 (by decide) ?_
        refine lv_iload_n hx hb dX11_goesFrom_49 rfl (lv_at hl 2 rfl) ?_
        refine lv_imul hx hb dX11_goesFrom_50 ?_
        refine lv_topi (fun x_35 ex_35 => ?_)
        obtain rfl : x_35 = nI (3 * k) := ex_35.trans (pk_mul 3 k)
        refine lv_iload hx hb dX11_goesFrom_51 (lv_at hl 0 rfl) ?_
        refine lv_iadd hx hb dX11_goesFrom_53 ?_
        refine lv_topi (fun x_36 ex_36 => ?_)
        obtain rfl : x_36 = nI ((3 * k) + 2) := ex_36.trans (nI_add (3 * k) 2)
        refine va_iald hx hb hK hP 1 1 rfl rfl (vp_in_nI (by omega) (by decide)) dX11_goesFrom_54 ?_
        refine lv_topi (fun x_37 ex_37 => ?_)
        rw [nI_clamp (show (3 * k) + 2 < 2 ^ 31 by omega)] at ex_37
        obtain rfl : x_37 = nI u2 := ex_37.trans ((hPR k _ hP0).2.2.1.trans (congrArg nI (bx_z (by omega))))
        refine va_iast hx hb hK hP hD hS 4 1 rfl rfl (by show ¬ (_ ∨ _); decide) dX11_goesFrom_55 (fun H locs hP hD hS => ?_)
        rw [show (2 : Int32).toNatClampNeg = 2 from rfl] at hP hD
        have hP : va_P (dC, dI) vwCl [(m0, .inr (11, [.int 0, .ref m_tape, .int 0, .int 0, .int 0, .ref m_read, .int 0, .int 0, .int 0, .ref m_tets, .int 0, .int 0, .int 0, .int 0, .int 0, .int 0, .int 0, .int 0, .ref m_primes, .ref m_often, .ref m_normal, .ref m_termM, .ref m_termP, .ref m_termV, .ref m_sumFrom, .ref m_sumMany, .int 0, .int 0, .int 0, .int 0, .ref m_part, .ref m_fair, .ref m_heap, .ref m_pickTet, .ref m_pickEdge, .ref m_base, .ref m_baseM, .ref m_baseP, .ref m_rowsOf, .int 0, .ref m_grid, .ref m_times, .ref m_boxes, .ref m_cameFrom, .ref m_cameBy, .ref m_steps, .ref m_sides, .int (nI P.length), .int (-1), .ref m_next, .ref m_cube, .ref m_ways])), (m_boxes, .inl (cI, 3600, (.inl gb))), (m_cameFrom, .inl (cI, 1200, (.inl gc))), (m_cameBy, .inl (cI, 1200, (.inl gd))), (m_next, .inl (cI, 3, (.inl (upd (upd (upd gn 0 (nI u0)) 1 (nI u1)) 2 (nI u2)))))] H := hP
        have hD : va_D A [(m0, .inr (11, [.int 0, .ref m_tape, .int 0, .int 0, .int 0, .ref m_read, .int 0, .int 0, .int 0, .ref m_tets, .int 0, .int 0, .int 0, .int 0, .int 0, .int 0, .int 0, .int 0, .ref m_primes, .ref m_often, .ref m_normal, .ref m_termM, .ref m_termP, .ref m_termV, .ref m_sumFrom, .ref m_sumMany, .int 0, .int 0, .int 0, .int 0, .ref m_part, .ref m_fair, .ref m_heap, .ref m_pickTet, .ref m_pickEdge, .ref m_base, .ref m_baseM, .ref m_baseP, .ref m_rowsOf, .int 0, .ref m_grid, .ref m_times, .ref m_boxes, .ref m_cameFrom, .ref m_cameBy, .ref m_steps, .ref m_sides, .int (nI P.length), .int (-1), .ref m_next, .ref m_cube, .ref m_ways])), (m_boxes, .inl (cI, 3600, (.inl gb))), (m_cameFrom, .inl (cI, 1200, (.inl gc))), (m_cameBy, .inl (cI, 1200, (.inl gd))), (m_next, .inl (cI, 3, (.inl (upd (upd (upd gn 0 (nI u0)) 1 (nI u1)) 2 (nI u2)))))] := hD
        refine lv_iinc (v := 3) (lv' := [(5, .int 3), (0, .ref m0), (1, .int (nI k)), (2, .int 2), (3, .int 0), (4, .int (nI n))]) hx hb dX11_goesFrom_56 hl (k := 0) rfl (by decide) (by decide) rfl (fun ls hl => ?_)
        refine lv_goto (tgt := 32) hx hb dX11_goesFrom_59 (by decide) ?_
        refine lv_iload hx hb dX11_goesFrom_32 (lv_at hl 0 rfl) ?_
        refine lv_iconst (v := 3) hx hb dX11_goesFrom_34 (by decide) ?_
        refine lv_icmp_ge (tgt := 62) hx hb dX11_goesFrom_35 (by decide) (fun _ => ?_) (fun c => absurd (by decide) c)
        refine lv_aload_n hx hb dX11_goesFrom_62 rfl (lv_at hl 1 rfl) ?_
        refine lv_iload_n hx hb dX11_goesFrom_63 rfl (lv_at hl 3 rfl) ?_
        refine lv_iload_n hx hb dX11_goesFrom_64 rfl (lv_at hl 4 rfl) ?_
        refine lv_iload hx hb dX11_goesFrom_65 (lv_at hl 5 rfl) ?_
        have hPc := hP.sub (ws' := [(m0, .inr (11, [.int 0, .ref m_tape, .int 0, .int 0, .int 0, .ref m_read, .int 0, .int 0, .int 0, .ref m_tets, .int 0, .int 0, .int 0, .int 0, .int 0, .int 0, .int 0, .int 0, .ref m_primes, .ref m_often, .ref m_normal, .ref m_termM, .ref m_termP, .ref m_termV, .ref m_sumFrom, .ref m_sumMany, .int 0, .int 0, .int 0, .int 0, .ref m_part, .ref m_fair, .ref m_heap, .ref m_pickTet, .ref m_pickEdge, .ref m_base, .ref m_baseM, .ref m_baseP, .ref m_rowsOf, .int 0, .ref m_grid, .ref m_times, .ref m_boxes, .ref m_cameFrom, .ref m_cameBy, .ref m_steps, .ref m_sides, .int (nI P.length), .int (-1), .ref m_next, .ref m_cube, .ref m_ways])), (m_next, .inl (cI, 3, (.inl (upd (upd (upd gn 0 (nI u0)) 1 (nI u1)) 2 (nI u2)))))]) [0, 4] rfl
        have hDc := hD.sub (ws' := [(m0, .inr (11, [.int 0, .ref m_tape, .int 0, .int 0, .int 0, .ref m_read, .int 0, .int 0, .int 0, .ref m_tets, .int 0, .int 0, .int 0, .int 0, .int 0, .int 0, .int 0, .int 0, .ref m_primes, .ref m_often, .ref m_normal, .ref m_termM, .ref m_termP, .ref m_termV, .ref m_sumFrom, .ref m_sumMany, .int 0, .int 0, .int 0, .int 0, .ref m_part, .ref m_fair, .ref m_heap, .ref m_pickTet, .ref m_pickEdge, .ref m_base, .ref m_baseM, .ref m_baseP, .ref m_rowsOf, .int 0, .ref m_grid, .ref m_times, .ref m_boxes, .ref m_cameFrom, .ref m_cameBy, .ref m_steps, .ref m_sides, .int (nI P.length), .int (-1), .ref m_next, .ref m_cube, .ref m_ways])), (m_next, .inl (cI, 3, (.inl (upd (upd (upd gn 0 (nI u0)) 1 (nI u1)) 2 (nI u2)))))]) [0, 4] (by decide) rfl
        have hFc := va_free (wc := [(m0, .inr (11, [.int 0, .ref m_tape, .int 0, .int 0, .int 0, .ref m_read, .int 0, .int 0, .int 0, .ref m_tets, .int 0, .int 0, .int 0, .int 0, .int 0, .int 0, .int 0, .int 0, .ref m_primes, .ref m_often, .ref m_normal, .ref m_termM, .ref m_termP, .ref m_termV, .ref m_sumFrom, .ref m_sumMany, .int 0, .int 0, .int 0, .int 0, .ref m_part, .ref m_fair, .ref m_heap, .ref m_pickTet, .ref m_pickEdge, .ref m_base, .ref m_baseM, .ref m_baseP, .ref m_rowsOf, .int 0, .ref m_grid, .ref m_times, .ref m_boxes, .ref m_cameFrom, .ref m_cameBy, .ref m_steps, .ref m_sides, .int (nI P.length), .int (-1), .ref m_next, .ref m_cube, .ref m_ways])), (m_next, .inl (cI, 3, (.inl (upd (upd (upd gn 0 (nI u0)) 1 (nI u1)) 2 (nI u2)))))]) hD hS hA [0, 4] rfl
        refine va_calli (va_runV (As := [.int 2, .int 0, .int (nI n)]) (rest := []) ⟨hx, hb, hml, hown, hts⟩ (c_X11_goes__20 l dC dI cB cI cJ H.size m0 m_tape m_read m_tets m_primes m_often m_normal m_termM m_termP m_termV m_sumFrom m_sumMany m_part m_fair m_heap m_pickTet m_pickEdge m_base m_baseM m_baseP m_rowsOf m_grid m_times m_boxes m_cameFrom m_cameBy m_steps m_sides m_next m_cube m_ways (nI P.length) (upd (upd (upd gn 0 (nI u0)) 1 (nI u1)) 2 (nI u2)) u0 u1 u2 n hu (by omega) (⟨rfl, rfl, rfl⟩)) (cwV 3 hts gX11_goesFrom_X11_goes_ rfl rfl rfl (by decide +kernel) ⟨Nat.le_of_ble_eq_true rfl, Nat.le_of_ble_eq_true rfl⟩) ⟨fun a U g mk q => by obtain ⟨q0, q1, qP, qK, qD⟩ := q; exact ⟨q0, q1, qP, va_K.moved (u := U) (U := U.calling g mk a) (Vm.Alike.refl U.vm) qK, qD⟩, va_recv hK hP (ci := 11) (q0 := 0) rfl rfl, fun U hU hW => ⟨rfl, by rw [hU], by rw [hU]; exact hPc, va_K.moved hW.alike hK, hDc.weaken (fun _ _ _ _ => trivial)⟩⟩ rfl rfl hl.1 rfl (lv_room (Nat.le_of_ble_eq_true rfl)) dX11_goesFrom_67 ⟨Nat.le_of_ble_eq_true rfl, Nat.le_of_ble_eq_true rfl⟩) hS (fun q _ h => hFc q h) hFc (fun r_38 u t H1 locs ht hvm hw hB hz1 hk1 hS => ?_)
        obtain ⟨g_39, h_40, hP1, hK1, hD1⟩ := hB
        rw [ht] at hP1
        obtain ⟨hP, hD⟩ := va_join (wr := [(m_boxes, .inl (cI, 3600, (.inl gb))), (m_cameFrom, .inl (cI, 1200, (.inl gc))), (m_cameBy, .inl (cI, 1200, (.inl gd)))]) (w1 := [(m0, .inr (11, [.int 0, .ref m_tape, .int 0, .int 0, .int 0, .ref m_read, .int 0, .int 0, .int 0, .ref m_tets, .int 0, .int 0, .int 0, .int 0, .int 0, .int 0, .int 0, .int 0, .ref m_primes, .ref m_often, .ref m_normal, .ref m_termM, .ref m_termP, .ref m_termV, .ref m_sumFrom, .ref m_sumMany, .int 0, .int 0, .int 0, .int 0, .ref m_part, .ref m_fair, .ref m_heap, .ref m_pickTet, .ref m_pickEdge, .ref m_base, .ref m_baseM, .ref m_baseP, .ref m_rowsOf, .int 0, .ref m_grid, .ref m_times, .ref m_boxes, .ref m_cameFrom, .ref m_cameBy, .ref m_steps, .ref m_sides, .int (nI P.length), .int (-1), .ref m_next, .ref m_cube, .ref m_ways])), (m_next, .inl (cI, 3, (.inl g_39)))]) hP hD [0, 4] [1, 2, 3] rfl rfl (by decide) (by decide) hk1 hFc hP1 hD1
        generalize H1 = H at hP hS ⊢
        have hP : va_P (dC, dI) vwCl [(m_boxes, .inl (cI, 3600, (.inl gb))), (m_cameFrom, .inl (cI, 1200, (.inl gc))), (m_cameBy, .inl (cI, 1200, (.inl gd))), (m0, .inr (11, [.int 0, .ref m_tape, .int 0, .int 0, .int 0, .ref m_read, .int 0, .int 0, .int 0, .ref m_tets, .int 0, .int 0, .int 0, .int 0, .int 0, .int 0, .int 0, .int 0, .ref m_primes, .ref m_often, .ref m_normal, .ref m_termM, .ref m_termP, .ref m_termV, .ref m_sumFrom, .ref m_sumMany, .int 0, .int 0, .int 0, .int 0, .ref m_part, .ref m_fair, .ref m_heap, .ref m_pickTet, .ref m_pickEdge, .ref m_base, .ref m_baseM, .ref m_baseP, .ref m_rowsOf, .int 0, .ref m_grid, .ref m_times, .ref m_boxes, .ref m_cameFrom, .ref m_cameBy, .ref m_steps, .ref m_sides, .int (nI P.length), .int (-1), .ref m_next, .ref m_cube, .ref m_ways])), (m_next, .inl (cI, 3, (.inl g_39)))] H := hP
        have hD : va_D A [(m_boxes, .inl (cI, 3600, (.inl gb))), (m_cameFrom, .inl (cI, 1200, (.inl gc))), (m_cameBy, .inl (cI, 1200, (.inl gd))), (m0, .inr (11, [.int 0, .ref m_tape, .int 0, .int 0, .int 0, .ref m_read, .int 0, .int 0, .int 0, .ref m_tets, .int 0, .int 0, .int 0, .int 0, .int 0, .int 0, .int 0, .int 0, .ref m_primes, .ref m_often, .ref m_normal, .ref m_termM, .ref m_termP, .ref m_termV, .ref m_sumFrom, .ref m_sumMany, .int 0, .int 0, .int 0, .int 0, .ref m_part, .ref m_fair, .ref m_heap, .ref m_pickTet, .ref m_pickEdge, .ref m_base, .ref m_baseM, .ref m_baseP, .ref m_rowsOf, .int 0, .ref m_grid, .ref m_times, .ref m_boxes, .ref m_cameFrom, .ref m_cameBy, .ref m_steps, .ref m_sides, .int (nI P.length), .int (-1), .ref m_next, .ref m_cube, .ref m_ways])), (m_next, .inl (cI, 3, (.inl g_39)))] := hD
        have hr_38 := hw
        rcases hr_38 with ⟨rfl, hok⟩ | ⟨rfl, hok⟩
        · have hPT : q_sees k (d + 1) (nb_n u0 u1 u2 2 0 (25 - (n + 1)) (n + 1) ++ (nb_n u0 u1 u2 2 1 23 2 ++ [])) P = T := (congrArg (fun L9 => q_sees k (d + 1) (L9 ++ (nb_n u0 u1 u2 2 1 23 2 ++ [])) P) (nb_no (x := u0) (y := u1) (z := u2) (i := 2) (j := 0) (f := 25 - (n + 1)) (n := n) hok)).symm.trans hPT
          refine lv_if_eq (tgt := 110) hx hb dX11_goesFrom_70 (by decide) (fun _ => ?_) (fun c => absurd (by decide) c)
          obtain ⟨x_41, ex_41⟩ : ∃ y : Int32, y = (nI n) + 1 := ⟨_, rfl⟩
          refine lv_iinc (v := x_41) (lv' := [(4, .int x_41), (5, .int 3), (0, .ref m0), (1, .int (nI k)), (2, .int 2), (3, .int 0)]) hx hb dX11_goesFrom_110 hl (k := 5) rfl (by rw [ex_41]; rfl) (by decide) rfl (fun ls hl => ?_)
          obtain rfl : x_41 = nI (n + 1) := ex_41.trans (nI_1 n)
          have hl : lv_has ls 6 [(4, .int (nI (n + 1))), (5, .int 3), (0, .ref m0), (1, .int (nI k)), (2, .int 2), (3, .int 0)] := hl
          refine lv_goto (tgt := 17) hx hb dX11_goesFrom_113 (by decide) ?_
          exact out _ _ _ (ih20 (n + 1) P gb gc gd _ (by omega) (by omega) (by omega) hP0 hPI hPR hPT _ _ (hP.sub [3, 0, 1, 2, 4] rfl) (hD.sub [3, 0, 1, 2, 4] (by decide) rfl) hS ls (lv_sub hl [2, 3, 4, 5, 0] rfl))
        · have hPT : q_sees k (d + 1) ((st_go u0 u1 u2 2 0 n :: nb_n u0 u1 u2 2 0 (25 - (n + 1)) (n + 1)) ++ (nb_n u0 u1 u2 2 1 23 2 ++ [])) P = T := (congrArg (fun L9 => q_sees k (d + 1) (L9 ++ (nb_n u0 u1 u2 2 1 23 2 ++ [])) P) (nb_yes (x := u0) (y := u1) (z := u2) (i := 2) (j := 0) (f := 25 - (n + 1)) (n := n) hok)).symm.trans hPT
          have hgz := h_40 hok
          have o1 : u2 % n = 0 := hok.1
          have o2 : u0 % (n - 1) = 0 := hok.2.1
          have o3 : u0 / (n - 1) * n ≤ 24 := hok.2.2
          have l1 := st_lo h6 (show 1 ≤ u2 by omega) (show u2 ≤ 24 by omega) o1
          have l2 := st_hi h6 (show 1 ≤ u0 by omega) o2
          have hgo : bx_in V (st_go u0 u1 u2 2 0 n) := st_go_in hu.1 hu.2.1 hu.2.2 hV (by decide) (by decide) (by decide) h6 (st_ok_iff.mpr hok)
          refine lv_if_eq (tgt := 110) hx hb dX11_goesFrom_70 (by decide) (fun c => absurd c (by decide)) (fun _ => ?_)
          refine lv_aload_n hx hb dX11_goesFrom_73 rfl (lv_at hl 1 rfl) ?_
          refine lv_aload_n hx hb dX11_goesFrom_74 rfl (lv_at hl 1 rfl) ?_
          refine va_get (D := (dC, dI)) (ci := 11) (v := .ref m_next) (C := RX11) (T := TX11) (N := 52) hx hb hts hiX11 hown hK hP 3 rfl rfl 49 (by decide) (hts (.fieldLink RX11 97 "ScissorsTableModel" "next" "[I") (by decide +kernel)) (fun _ h9 => h9) rfl dX11_goesFrom_75 ?_
          refine lv_iconst (v := 0) hx hb dX11_goesFrom_78 (by decide) ?_
          refine va_iald hx hb hK hP 4 1 rfl rfl (by show ¬ (_ ∨ _); decide) dX11_goesFrom_79 ?_
          refine lv_topi (fun x_42 ex_42 => ?_)
          have ex_42 : x_42 = g_39 0 := ex_42
          obtain rfl : x_42 = nI (u0 / (n - 1) * n) := ex_42.trans hgz.1
          refine lv_aload_n hx hb dX11_goesFrom_80 rfl (lv_at hl 1 rfl) ?_
          refine va_get (D := (dC, dI)) (ci := 11) (v := .ref m_next) (C := RX11) (T := TX11) (N := 52) hx hb hts hiX11 hown hK hP 3 rfl rfl 49 (by decide) (hts (.fieldLink RX11 97 "ScissorsTableModel" "next" "[I") (by decide +kernel)) (fun _ h9 => h9) rfl dX11_goesFrom_81 ?_
          refine lv_iconst (v := 1) hx hb dX11_goesFrom_84 (by decide) ?_
          refine va_iald hx hb hK hP 4 1 rfl rfl (by show ¬ (_ ∨ _); decide) dX11_goesFrom_85 ?_
          refine lv_topi (fun x_43 ex_43 => ?_)
          have ex_43 : x_43 = g_39 1 := ex_43
          obtain rfl : x_43 = nI (u1) := ex_43.trans hgz.2.1
          refine lv_aload_n hx hb dX11_goesFrom_86 rfl (lv_at hl 1 rfl) ?_
          refine va_get (D := (dC, dI)) (ci := 11) (v := .ref m_next) (C := RX11) (T := TX11) (N := 52) hx hb hts hiX11 hown hK hP 3 rfl rfl 49 (by decide) (hts (.fieldLink RX11 97 "ScissorsTableModel" "next" "[I") (by decide +kernel)) (fun _ h9 => h9) rfl dX11_goesFrom_87 ?_
          refine lv_iconst (v := 2) hx hb dX11_goesFrom_90 (by decide) ?_
          refine va_iald hx hb hK hP 4 1 rfl rfl (by show ¬ (_ ∨ _); decide) dX11_goesFrom_91 ?_
          refine lv_topi (fun x_44 ex_44 => ?_)
          have ex_44 : x_44 = g_39 2 := ex_44
          obtain rfl : x_44 = nI (u2 / n * (n - 1)) := ex_44.trans hgz.2.2
          refine lv_iload_n hx hb dX11_goesFrom_92 rfl (lv_at hl 2 rfl) ?_
          refine lv_bipush (v := 72) hx hb dX11_goesFrom_93 (by decide) ?_
          refine lv_iload_n hx hb dX11_goesFrom_95 rfl (lv_at hl 3 rfl) ?_
          refine lv_imul hx hb dX11_goesFrom_96 ?_
          refine lv_topi (fun x_45 ex_45 => ?_)
          obtain rfl : x_45 = 144 := ex_45.trans (by first | rfl | decide)
          refine lv_bipush (v := 24) hx hb dX11_goesFrom_97 (by decide) ?_
          refine lv_iload_n hx hb dX11_goesFrom_99 rfl (lv_at hl 4 rfl) ?_
          refine lv_imul hx hb dX11_goesFrom_100 ?_
          refine lv_topi (fun x_46 ex_46 => ?_)
          obtain rfl : x_46 = 0 := ex_46.trans (by first | rfl | decide)
          refine lv_iadd hx hb dX11_goesFrom_101 ?_
          refine lv_topi (fun x_47 ex_47 => ?_)
          obtain rfl : x_47 = 144 := ex_47.trans (by first | rfl | decide)
          refine lv_iload hx hb dX11_goesFrom_102 (lv_at hl 5 rfl) ?_
          refine lv_iadd hx hb dX11_goesFrom_104 ?_
          refine lv_topi (fun x_48 ex_48 => ?_)
          obtain rfl : x_48 = nI (144 + n) := ex_48.trans (nI_add 144 n)
          refine lv_iconst (v := 1) hx hb dX11_goesFrom_105 (by decide) ?_
          refine lv_isub hx hb dX11_goesFrom_106 ?_
          refine lv_topi (fun x_49 ex_49 => ?_)
          obtain rfl : x_49 = nI ((144 + n) - 1) := ex_49.trans (pk_sub (a := 144 + n) (b := 1) (by omega))
          have hvv : (u0 / (n - 1) * n) * u1 * (u2 / n * (n - 1)) = V := by
            obtain ⟨s0, s1, s2, g0, g1, g2, g3, g4⟩ := hgo
            have g4 : bx_mk (u0 / (n - 1) * n) u1 (u2 / n * (n - 1)) = bx_mk s0 s1 s2 := g4
            have g5 := bx_mk_inj g4 (by omega)
            rw [g5.1, g5.2.1, g5.2.2]
            exact g3
          have hPc := hP.sub (ws' := [(m0, .inr (11, [.int 0, .ref m_tape, .int 0, .int 0, .int 0, .ref m_read, .int 0, .int 0, .int 0, .ref m_tets, .int 0, .int 0, .int 0, .int 0, .int 0, .int 0, .int 0, .int 0, .ref m_primes, .ref m_often, .ref m_normal, .ref m_termM, .ref m_termP, .ref m_termV, .ref m_sumFrom, .ref m_sumMany, .int 0, .int 0, .int 0, .int 0, .ref m_part, .ref m_fair, .ref m_heap, .ref m_pickTet, .ref m_pickEdge, .ref m_base, .ref m_baseM, .ref m_baseP, .ref m_rowsOf, .int 0, .ref m_grid, .ref m_times, .ref m_boxes, .ref m_cameFrom, .ref m_cameBy, .ref m_steps, .ref m_sides, .int (nI P.length), .int (-1), .ref m_next, .ref m_cube, .ref m_ways])), (m_boxes, .inl (cI, 3600, (.inl gb))), (m_cameFrom, .inl (cI, 1200, (.inl gc))), (m_cameBy, .inl (cI, 1200, (.inl gd)))]) [3, 0, 1, 2] rfl
          have hDc := hD.sub (ws' := [(m0, .inr (11, [.int 0, .ref m_tape, .int 0, .int 0, .int 0, .ref m_read, .int 0, .int 0, .int 0, .ref m_tets, .int 0, .int 0, .int 0, .int 0, .int 0, .int 0, .int 0, .int 0, .ref m_primes, .ref m_often, .ref m_normal, .ref m_termM, .ref m_termP, .ref m_termV, .ref m_sumFrom, .ref m_sumMany, .int 0, .int 0, .int 0, .int 0, .ref m_part, .ref m_fair, .ref m_heap, .ref m_pickTet, .ref m_pickEdge, .ref m_base, .ref m_baseM, .ref m_baseP, .ref m_rowsOf, .int 0, .ref m_grid, .ref m_times, .ref m_boxes, .ref m_cameFrom, .ref m_cameBy, .ref m_steps, .ref m_sides, .int (nI P.length), .int (-1), .ref m_next, .ref m_cube, .ref m_ways])), (m_boxes, .inl (cI, 3600, (.inl gb))), (m_cameFrom, .inl (cI, 1200, (.inl gc))), (m_cameBy, .inl (cI, 1200, (.inl gd)))]) [3, 0, 1, 2] (by decide) rfl
          have hFc := va_free (wc := [(m0, .inr (11, [.int 0, .ref m_tape, .int 0, .int 0, .int 0, .ref m_read, .int 0, .int 0, .int 0, .ref m_tets, .int 0, .int 0, .int 0, .int 0, .int 0, .int 0, .int 0, .int 0, .ref m_primes, .ref m_often, .ref m_normal, .ref m_termM, .ref m_termP, .ref m_termV, .ref m_sumFrom, .ref m_sumMany, .int 0, .int 0, .int 0, .int 0, .ref m_part, .ref m_fair, .ref m_heap, .ref m_pickTet, .ref m_pickEdge, .ref m_base, .ref m_baseM, .ref m_baseP, .ref m_rowsOf, .int 0, .ref m_grid, .ref m_times, .ref m_boxes, .ref m_cameFrom, .ref m_cameBy, .ref m_steps, .ref m_sides, .int (nI P.length), .int (-1), .ref m_next, .ref m_cube, .ref m_ways])), (m_boxes, .inl (cI, 3600, (.inl gb))), (m_cameFrom, .inl (cI, 1200, (.inl gc))), (m_cameBy, .inl (cI, 1200, (.inl gd)))]) hD hS hA [3, 0, 1, 2] rfl
          refine va_callv (va_runV (As := [.int (nI (u0 / (n - 1) * n)), .int (nI (u1)), .int (nI (u2 / n * (n - 1))), .int (nI k), .int (nI ((144 + n) - 1))]) (rest := []) ⟨hx, hb, hml, hown, hts⟩ (c_X11_meetsBox l dC dI cB cI cJ H.size m0 m_tape m_read m_tets m_primes m_often m_normal m_termM m_termP m_termV m_sumFrom m_sumMany m_part m_fair m_heap m_pickTet m_pickEdge m_base m_baseM m_baseP m_rowsOf m_grid m_times m_boxes m_cameFrom m_cameBy m_steps m_sides m_next m_cube m_ways P gb gc gd V (u0 / (n - 1) * n) u1 (u2 / n * (n - 1)) k (d + 1) (nI k) (nI ((144 + n) - 1)) (by omega) hvv hPI hPR (by omega) ((if_neg (by omega)).symm)) (cwV 5 hts gX11_goesFrom_X11_meetsBox rfl rfl rfl (by decide +kernel) ⟨Nat.le_of_ble_eq_true rfl, Nat.le_of_ble_eq_true rfl⟩) ⟨fun a U g mk q => by obtain ⟨q0, q1, qP, qK, qD⟩ := q; exact ⟨q0, q1, qP, va_K.moved (u := U) (U := U.calling g mk a) (Vm.Alike.refl U.vm) qK, qD⟩, va_recv hK hP (ci := 11) (q0 := 3) rfl rfl, fun U hU hW => ⟨rfl, by rw [hU], by rw [hU]; exact hPc, va_K.moved hW.alike hK, hDc.weaken (fun _ _ _ _ => trivial)⟩⟩ rfl rfl hl.1 rfl (lv_room (Nat.le_of_ble_eq_true rfl)) dX11_goesFrom_107 ⟨Nat.le_of_ble_eq_true rfl, Nat.le_of_ble_eq_true rfl⟩) hS (fun q _ h => hFc q h) hFc (fun u t H1 locs ht hvm hw hB hz1 hk1 hS => ?_)
          obtain ⟨g_50, g_51, g_52, h_53, hP1, hK1, hD1⟩ := hB
          rw [ht] at hP1
          obtain ⟨hP, hD⟩ := va_join (wr := [(m_next, .inl (cI, 3, (.inl g_39)))]) (w1 := [(m0, .inr (11, [.int 0, .ref m_tape, .int 0, .int 0, .int 0, .ref m_read, .int 0, .int 0, .int 0, .ref m_tets, .int 0, .int 0, .int 0, .int 0, .int 0, .int 0, .int 0, .int 0, .ref m_primes, .ref m_often, .ref m_normal, .ref m_termM, .ref m_termP, .ref m_termV, .ref m_sumFrom, .ref m_sumMany, .int 0, .int 0, .int 0, .int 0, .ref m_part, .ref m_fair, .ref m_heap, .ref m_pickTet, .ref m_pickEdge, .ref m_base, .ref m_baseM, .ref m_baseP, .ref m_rowsOf, .int 0, .ref m_grid, .ref m_times, .ref m_boxes, .ref m_cameFrom, .ref m_cameBy, .ref m_steps, .ref m_sides, .int (nI (q_see P k (d + 1) (bx_mk (u0 / (n - 1) * n) u1 (u2 / n * (n - 1)))).length), .int (-1), .ref m_next, .ref m_cube, .ref m_ways])), (m_boxes, .inl (cI, 3600, (.inl g_50))), (m_cameFrom, .inl (cI, 1200, (.inl g_51))), (m_cameBy, .inl (cI, 1200, (.inl g_52)))]) hP hD [3, 0, 1, 2] [4] rfl rfl (by decide) (by decide) hk1 hFc hP1 hD1
          generalize H1 = H at hP hS ⊢
          have hP : va_P (dC, dI) vwCl [(m_next, .inl (cI, 3, (.inl g_39))), (m0, .inr (11, [.int 0, .ref m_tape, .int 0, .int 0, .int 0, .ref m_read, .int 0, .int 0, .int 0, .ref m_tets, .int 0, .int 0, .int 0, .int 0, .int 0, .int 0, .int 0, .int 0, .ref m_primes, .ref m_often, .ref m_normal, .ref m_termM, .ref m_termP, .ref m_termV, .ref m_sumFrom, .ref m_sumMany, .int 0, .int 0, .int 0, .int 0, .ref m_part, .ref m_fair, .ref m_heap, .ref m_pickTet, .ref m_pickEdge, .ref m_base, .ref m_baseM, .ref m_baseP, .ref m_rowsOf, .int 0, .ref m_grid, .ref m_times, .ref m_boxes, .ref m_cameFrom, .ref m_cameBy, .ref m_steps, .ref m_sides, .int (nI (q_see P k (d + 1) (bx_mk (u0 / (n - 1) * n) u1 (u2 / n * (n - 1)))).length), .int (-1), .ref m_next, .ref m_cube, .ref m_ways])), (m_boxes, .inl (cI, 3600, (.inl g_50))), (m_cameFrom, .inl (cI, 1200, (.inl g_51))), (m_cameBy, .inl (cI, 1200, (.inl g_52)))] H := hP
          have hD : va_D A [(m_next, .inl (cI, 3, (.inl g_39))), (m0, .inr (11, [.int 0, .ref m_tape, .int 0, .int 0, .int 0, .ref m_read, .int 0, .int 0, .int 0, .ref m_tets, .int 0, .int 0, .int 0, .int 0, .int 0, .int 0, .int 0, .int 0, .ref m_primes, .ref m_often, .ref m_normal, .ref m_termM, .ref m_termP, .ref m_termV, .ref m_sumFrom, .ref m_sumMany, .int 0, .int 0, .int 0, .int 0, .ref m_part, .ref m_fair, .ref m_heap, .ref m_pickTet, .ref m_pickEdge, .ref m_base, .ref m_baseM, .ref m_baseP, .ref m_rowsOf, .int 0, .ref m_grid, .ref m_times, .ref m_boxes, .ref m_cameFrom, .ref m_cameBy, .ref m_steps, .ref m_sides, .int (nI (q_see P k (d + 1) (bx_mk (u0 / (n - 1) * n) u1 (u2 / n * (n - 1)))).length), .int (-1), .ref m_next, .ref m_cube, .ref m_ways])), (m_boxes, .inl (cI, 3600, (.inl g_50))), (m_cameFrom, .inl (cI, 1200, (.inl g_51))), (m_cameBy, .inl (cI, 1200, (.inl g_52)))] := hD
          have hPT : q_sees k (d + 1) (nb_n u0 u1 u2 2 0 (25 - (n + 1)) (n + 1) ++ (nb_n u0 u1 u2 2 1 23 2 ++ [])) (q_see P k (d + 1) (bx_mk (u0 / (n - 1) * n) u1 (u2 / n * (n - 1)))) = T := hPT
          obtain ⟨x_54, ex_54⟩ : ∃ y : Int32, y = (nI n) + 1 := ⟨_, rfl⟩
          refine lv_iinc (v := x_54) (lv' := [(4, .int x_54), (5, .int 3), (0, .ref m0), (1, .int (nI k)), (2, .int 2), (3, .int 0)]) hx hb dX11_goesFrom_110 hl (k := 5) rfl (by rw [ex_54]; rfl) (by decide) rfl (fun ls hl => ?_)
          obtain rfl : x_54 = nI (n + 1) := ex_54.trans (nI_1 n)
          have hl : lv_has ls 6 [(4, .int (nI (n + 1))), (5, .int 3), (0, .ref m0), (1, .int (nI k)), (2, .int 2), (3, .int 0)] := hl
          refine lv_goto (tgt := 17) hx hb dX11_goesFrom_113 (by decide) ?_
          exact out _ _ _ (ih20 (n + 1) _ _ _ _ _ (by omega) (by omega) (by omega) (q_pre_at (q_see_pre P k (d + 1) (bx_mk (u0 / (n - 1) * n) u1 (u2 / n * (n - 1)))) hP0) (q_in_add hPI hgo) h_53 hPT _ _ (hP.sub [1, 2, 3, 4, 0] rfl) (hD.sub [1, 2, 3, 4, 0] (by decide) rfl) hS ls (lv_sub hl [2, 3, 4, 5, 0] rfl))
  have loop12 : ∀ (f12 : Nat) (n : Nat) (P : List qE) (gb : Nat → Int32) (gc : Nat → Int32) (gd : Nat → Int32) (gn : Nat → Int32) (h5 : n + f12 = 26) (h6 : 2 ≤ n) (h7 : n ≤ 25) (hP0 : P[k]? = some (bx_mk u0 u1 u2, pk, d)) (hPI : q_in V P) (hPR : RR P gb gc) (hPT : q_sees k (d + 1) (nb_n u0 u1 u2 1 2 (25 - n) n ++ (nb_n u0 u1 u2 2 0 23 2 ++ (nb_n u0 u1 u2 2 1 23 2 ++ []))) P = T) (H : Heap) (locs : List Loc) (_ : va_P (dC, dI) vwCl [(m0, .inr (11, [.int 0, .ref m_tape, .int 0, .int 0, .int 0, .ref m_read, .int 0, .int 0, .int 0, .ref m_tets, .int 0, .int 0, .int 0, .int 0, .int 0, .int 0, .int 0, .int 0, .ref m_primes, .ref m_often, .ref m_normal, .ref m_termM, .ref m_termP, .ref m_termV, .ref m_sumFrom, .ref m_sumMany, .int 0, .int 0, .int 0, .int 0, .ref m_part, .ref m_fair, .ref m_heap, .ref m_pickTet, .ref m_pickEdge, .ref m_base, .ref m_baseM, .ref m_baseP, .ref m_rowsOf, .int 0, .ref m_grid, .ref m_times, .ref m_boxes, .ref m_cameFrom, .ref m_cameBy, .ref m_steps, .ref m_sides, .int (nI P.length), .int (-1), .ref m_next, .ref m_cube, .ref m_ways])), (m_boxes, .inl (cI, 3600, (.inl gb))), (m_cameFrom, .inl (cI, 1200, (.inl gc))), (m_cameBy, .inl (cI, 1200, (.inl gd))), (m_next, .inl (cI, 3, (.inl gn)))] H) (_ : va_D A [(m0, .inr (11, [.int 0, .ref m_tape, .int 0, .int 0, .int 0, .ref m_read, .int 0, .int 0, .int 0, .ref m_tets, .int 0, .int 0, .int 0, .int 0, .int 0, .int 0, .int 0, .int 0, .ref m_primes, .ref m_often, .ref m_normal, .ref m_termM, .ref m_termP, .ref m_termV, .ref m_sumFrom, .ref m_sumMany, .int 0, .int 0, .int 0, .int 0, .ref m_part, .ref m_fair, .ref m_heap, .ref m_pickTet, .ref m_pickEdge, .ref m_base, .ref m_baseM, .ref m_baseP, .ref m_rowsOf, .int 0, .ref m_grid, .ref m_times, .ref m_boxes, .ref m_cameFrom, .ref m_cameBy, .ref m_steps, .ref m_sides, .int (nI P.length), .int (-1), .ref m_next, .ref m_cube, .ref m_ways])), (m_boxes, .inl (cI, 3600, (.inl gb))), (m_cameFrom, .inl (cI, 1200, (.inl gc))), (m_cameBy, .inl (cI, 1200, (.inl gd))), (m_next, .inl (cI, 3, (.inl gn)))]) (_ : va_S A s.heap H locs) (ls : Array Slot) (_ : lv_has ls 6 [(0, .ref m0), (1, .int (nI k)), (2, .int 1), (3, .int 2), (4, .int (nI n))]), G H locs (F0 m 17 ls []) := by
    intro f12
    induction f12 with
    | zero =>
      intro n P gb gc gd gn h5 h6 h7 hP0 hPI hPR hPT H locs hP hD hS ls hl
      exfalso; omega
    | succ f12 ih12 =>
      intro n P gb gc gd gn h5 h6 h7 hP0 hPI hPR hPT H locs hP hD hS ls hl
      refine inn _ _ _ ?_
      have hPl : P.length ≤ 96 := Nat.le_trans (q_pre_len (hPT ▸ q_sees_pre k (d + 1) (nb_n u0 u1 u2 1 2 (25 - n) n ++ (nb_n u0 u1 u2 2 0 23 2 ++ (nb_n u0 u1 u2 2 1 23 2 ++ []))) P)) hTl
      have hkl := q_lt hP0
      refine lv_iload hx hb dX11_goesFrom_17 (lv_at hl 4 rfl) ?_
      refine lv_bipush (v := 24) hx hb dX11_goesFrom_19 (by decide) ?_
      refine lv_icmp_gt (tgt := 116) hx hb dX11_goesFrom_21 (by decide) (fun c_55 => ?_) (fun c_55 => ?_)
      · have c_55 : 24 < n := (nI_ltI (a := 24) (b := n) (by omega) (by omega)).mp c_55
        have hPT : q_sees k (d + 1) (nb_n u0 u1 u2 2 0 23 2 ++ (nb_n u0 u1 u2 2 1 23 2 ++ [])) P = T := by
          rw [show 25 - n = 0 by omega] at hPT
          exact hPT
        refine lv_iinc (v := 3) (lv' := [(3, .int 3), (0, .ref m0), (1, .int (nI k)), (2, .int 1), (4, .int (nI n))]) hx hb dX11_goesFrom_116 hl (k := 3) rfl (by decide) (by decide) rfl (fun ls hl => ?_)
        refine lv_goto (tgt := 9) hx hb dX11_goesFrom_119 (by decide) ?_
        refine lv_iload_n hx hb dX11_goesFrom_9 rfl (lv_at hl 0 rfl) ?_
        refine lv_iconst (v := 3) hx hb dX11_goesFrom_10 (by decide) ?_
        refine lv_icmp_ge (tgt := 122) hx hb dX11_goesFrom_11 (by decide) (fun _ => ?_) (fun c => absurd (by decide) c)
        refine lv_iinc (v := 2) (lv' := [(2, .int 2), (3, .int 3), (0, .ref m0), (1, .int (nI k)), (4, .int (nI n))]) hx hb dX11_goesFrom_122 hl (k := 3) rfl (by decide) (by decide) rfl (fun ls hl => ?_)
        refine lv_goto (tgt := 2) hx hb dX11_goesFrom_125 (by decide) ?_
        refine lv_iload_n hx hb dX11_goesFrom_2 rfl (lv_at hl 0 rfl) ?_
        refine lv_iconst (v := 3) hx hb dX11_goesFrom_3 (by decide) ?_
        refine lv_icmp_ge (tgt := 128) hx hb dX11_goesFrom_4 (by decide) (fun c => absurd c (by decide)) (fun _ => ?_)
        refine lv_iconst (v := 0) hx hb dX11_goesFrom_7 (by decide) ?_
        refine lv_istore_n (lv' := [(3, .int 0), (2, .int 2), (0, .ref m0), (1, .int (nI k)), (4, .int (nI n))]) hx hb dX11_goesFrom_8 rfl hl (by decide) rfl (fun ls hl => ?_)
        refine lv_iload_n hx hb dX11_goesFrom_9 rfl (lv_at hl 0 rfl) ?_
        refine lv_iconst (v := 3) hx hb dX11_goesFrom_10 (by decide) ?_
        refine lv_icmp_ge (tgt := 122) hx hb dX11_goesFrom_11 (by decide) (fun c => absurd c (by decide)) (fun _ => ?_)
        refine lv_iconst (v := 2) hx hb dX11_goesFrom_14 (by decide) ?_
        refine lv_istore (lv' := [(4, .int 2), (3, .int 0), (2, .int 2), (0, .ref m0), (1, .int (nI k))]) hx hb dX11_goesFrom_15 hl (by decide) rfl (fun ls hl => ?_)
        exact out _ _ _ (loop20 24 2 P gb gc gd _ rfl (by omega) (by omega) hP0 hPI hPR hPT _ _ (hP.sub [0, 1, 2, 3, 4] rfl) (hD.sub [0, 1, 2, 3, 4] (by decide) rfl) hS ls (lv_sub hl [3, 4, 2, 1, 0] rfl))
      · have c_55 : ¬ 24 < n := fun q9 => c_55 ((nI_ltI (a := 24) (b := n) (by omega) (by omega)).mpr q9)
        rw [show 25 - n = (25 - (n + 1)) + 1 by omega] at hPT
        refine lv_iload_n hx hb dX11_goesFrom_24 rfl (lv_at hl 2 rfl) ?_
        refine lv_iload_n hx hb dX11_goesFrom_25 rfl (lv_at hl 3 rfl) ?_
        refine lv_icmp_eq (tgt := 116) hx hb dX11_goesFrom_26 (by decide) (fun c => absurd c (by decide)) (fun _ => ?_)
        refine lv_iconst (v := 0) hx hb dX11_goesFrom_29 (by decide) ?_
        refine lv_istore (lv' := [(5, .int 0), (0, .ref m0), (1, .int (nI k)), (2, .int 1), (3, .int 2), (4, .int (nI n))]) hx hb dX11_goesFrom_30 hl (by decide) rfl (fun ls hl => ?_)
        refine lv_iload hx hb dX11_goesFrom_32 (lv_at hl 0 rfl) ?_
        refine lv_iconst (v := 3) hx hb dX11_goesFrom_34 (by decide) ?_
        refine lv_icmp_ge (tgt := 62) hx hb dX11_goesFrom_35 (by decide) (fun c => absurd c (by decide)) (fun _ => ?_)
        refine lv_aload_n hx hb dX11_goesFrom_38 rfl (lv_at hl 1 rfl) ?_
        refine va_get (D := (dC, dI)) (ci := 11) (v := .ref m_next) (C := RX11) (T := TX11) (N := 52) hx hb hts hiX11 hown hK hP 0 rfl rfl 49 (by decide) (hts (.fieldLink RX11 97 "ScissorsTableModel" "next" "[I") (by decide +kernel)) (fun _ h9 => h9) rfl dX11_goesFrom_39 ?_
        refine lv_iload hx hb dX11_goesFrom_42 (lv_at hl 0 rfl) ?_
        refine lv_aload_n hx hb dX11_goesFrom_44 rfl (lv_at hl 1 rfl) ?_
        refine va_get (D := (dC, dI)) (ci := 11) (v := .ref m_boxes) (C := RX11) (T := TX11) (N := 52) hx hb hts hiX11 hown hK hP 0 rfl rfl 42 (by decide) (hts (.fieldLink RX11 78 "ScissorsTableModel" "boxes" "[I") (by decide +kernel)) (fun _ h9 => h9) rfl dX11_goesFrom_45 ?_
        refine lv_iconst (v := 3) hx hb dX11_goesFrom_48 (by decide) ?_
        refine lv_iload_n hx hb dX11_goesFrom_49 rfl (lv_at hl 2 rfl) ?_
        refine lv_imul hx hb dX11_goesFrom_50 ?_
        refine lv_topi (fun x_56 ex_56 => ?_)
        obtain rfl : x_56 = nI (3 * k) := ex_56.trans (pk_mul 3 k)
        refine lv_iload hx hb dX11_goesFrom_51 (lv_at hl 0 rfl) ?_
        refine lv_iadd hx hb dX11_goesFrom_53 ?_
        refine lv_topi (fun x_57 ex_57 => ?_)
        obtain rfl : x_57 = nI ((3 * k) + 0) := ex_57.trans (nI_add (3 * k) 0)
        refine va_iald hx hb hK hP 1 1 rfl rfl (vp_in_nI (by omega) (by decide)) dX11_goesFrom_54 ?_
        refine lv_topi (fun x_58 ex_58 => ?_)
        rw [nI_clamp (show (3 * k) + 0 < 2 ^ 31 by omega)] at ex_58
        obtain rfl : x_58 = nI u0 := ex_58.trans ((hPR k _ hP0).1.trans (congrArg nI (bx_x (by omega) (by omega))))
        refine va_iast hx hb hK hP hD hS 4 1 rfl rfl (by show ¬ (_ ∨ _); decide) dX11_goesFrom_55 (fun H locs hP hD hS => ?_)
        rw [show (0 : Int32).toNatClampNeg = 0 from rfl] at hP hD
        have hP : va_P (dC, dI) vwCl [(m0, .inr (11, [.int 0, .ref m_tape, .int 0, .int 0, .int 0, .ref m_read, .int 0, .int 0, .int 0, .ref m_tets, .int 0, .int 0, .int 0, .int 0, .int 0, .int 0, .int 0, .int 0, .ref m_primes, .ref m_often, .ref m_normal, .ref m_termM, .ref m_termP, .ref m_termV, .ref m_sumFrom, .ref m_sumMany, .int 0, .int 0, .int 0, .int 0, .ref m_part, .ref m_fair, .ref m_heap, .ref m_pickTet, .ref m_pickEdge, .ref m_base, .ref m_baseM, .ref m_baseP, .ref m_rowsOf, .int 0, .ref m_grid, .ref m_times, .ref m_boxes, .ref m_cameFrom, .ref m_cameBy, .ref m_steps, .ref m_sides, .int (nI P.length), .int (-1), .ref m_next, .ref m_cube, .ref m_ways])), (m_boxes, .inl (cI, 3600, (.inl gb))), (m_cameFrom, .inl (cI, 1200, (.inl gc))), (m_cameBy, .inl (cI, 1200, (.inl gd))), (m_next, .inl (cI, 3, (.inl (upd gn 0 (nI u0)))))] H := hP
        have hD : va_D A [(m0, .inr (11, [.int 0, .ref m_tape, .int 0, .int 0, .int 0, .ref m_read, .int 0, .int 0, .int 0, .ref m_tets, .int 0, .int 0, .int 0, .int 0, .int 0, .int 0, .int 0, .int 0, .ref m_primes, .ref m_often, .ref m_normal, .ref m_termM, .ref m_termP, .ref m_termV, .ref m_sumFrom, .ref m_sumMany, .int 0, .int 0, .int 0, .int 0, .ref m_part, .ref m_fair, .ref m_heap, .ref m_pickTet, .ref m_pickEdge, .ref m_base, .ref m_baseM, .ref m_baseP, .ref m_rowsOf, .int 0, .ref m_grid, .ref m_times, .ref m_boxes, .ref m_cameFrom, .ref m_cameBy, .ref m_steps, .ref m_sides, .int (nI P.length), .int (-1), .ref m_next, .ref m_cube, .ref m_ways])), (m_boxes, .inl (cI, 3600, (.inl gb))), (m_cameFrom, .inl (cI, 1200, (.inl gc))), (m_cameBy, .inl (cI, 1200, (.inl gd))), (m_next, .inl (cI, 3, (.inl (upd gn 0 (nI u0)))))] := hD
        refine lv_iinc (v := 1) (lv' := [(5, .int 1), (0, .ref m0), (1, .int (nI k)), (2, .int 1), (3, .int 2), (4, .int (nI n))]) hx hb dX11_goesFrom_56 hl (k := 0) rfl (by decide) (by decide) rfl (fun ls hl => ?_)
        refine lv_goto (tgt := 32) hx hb dX11_goesFrom_59 (by decide) ?_
        refine lv_iload hx hb dX11_goesFrom_32 (lv_at hl 0 rfl) ?_
        refine lv_iconst (v := 3) hx hb dX11_goesFrom_34 (by decide) ?_
        refine lv_icmp_ge (tgt := 62) hx hb dX11_goesFrom_35 (by decide) (fun c => absurd c (by decide)) (fun _ => ?_)
        refine lv_aload_n hx hb dX11_goesFrom_38 rfl (lv_at hl 1 rfl) ?_
        refine va_get (D := (dC, dI)) (ci := 11) (v := .ref m_next) (C := RX11) (T := TX11) (N := 52) hx hb hts hiX11 hown hK hP 0 rfl rfl 49 (by decide) (hts (.fieldLink RX11 97 "ScissorsTableModel" "next" "[I") (by decide +kernel)) (fun _ h9 => h9) rfl dX11_goesFrom_39 ?_
        refine lv_iload hx hb dX11_goesFrom_42 (lv_at hl 0 rfl) ?_
        refine lv_aload_n hx hb dX11_goesFrom_44 rfl (lv_at hl 1 rfl) ?_
        refine va_get (D := (dC, dI)) (ci := 11) (v := .ref m_boxes) (C := RX11) (T := TX11) (N := 52) hx hb hts hiX11 hown hK hP 0 rfl rfl 42 (by decide) (hts (.fieldLink RX11 78 "ScissorsTableModel" "boxes" "[I") (by decide +kernel)) (fun _ h9 => h9) rfl dX11_goesFrom_45 ?_
        refine lv_iconst (v := 3) hx hb dX11_goesFrom_48 (by decide) ?_
        refine lv_iload_n hx hb dX11_goesFrom_49 rfl (lv_at hl 2 rfl) ?_
        refine lv_imul hx hb dX11_goesFrom_50 ?_
        refine lv_topi (fun x_59 ex_59 => ?_)
        obtain rfl : x_59 = nI (3 * k) := ex_59.trans (pk_mul 3 k)
        refine lv_iload hx hb dX11_goesFrom_51 (lv_at hl 0 rfl) ?_
        refine lv_iadd hx hb dX11_goesFrom_53 ?_
        refine lv_topi (fun x_60 ex_60 => ?_)
        obtain rfl : x_60 = nI ((3 * k) + 1) := ex_60.trans (nI_add (3 * k) 1)
        refine va_iald hx hb hK hP 1 1 rfl rfl (vp_in_nI (by omega) (by decide)) dX11_goesFrom_54 ?_
        refine lv_topi (fun x_61 ex_61 => ?_)
        rw [nI_clamp (show (3 * k) + 1 < 2 ^ 31 by omega)] at ex_61
        obtain rfl : x_61 = nI u1 := ex_61.trans ((hPR k _ hP0).2.1.trans (congrArg nI (bx_y (by omega) (by omega))))
        refine va_iast hx hb hK hP hD hS 4 1 rfl rfl (by show ¬ (_ ∨ _); decide) dX11_goesFrom_55 (fun H locs hP hD hS => ?_)
        rw [show (1 : Int32).toNatClampNeg = 1 from rfl] at hP hD
        have hP : va_P (dC, dI) vwCl [(m0, .inr (11, [.int 0, .ref m_tape, .int 0, .int 0, .int 0, .ref m_read, .int 0, .int 0, .int 0, .ref m_tets, .int 0, .int 0, .int 0, .int 0, .int 0, .int 0, .int 0, .int 0, .ref m_primes, .ref m_often, .ref m_normal, .ref m_termM, .ref m_termP, .ref m_termV, .ref m_sumFrom, .ref m_sumMany, .int 0, .int 0, .int 0, .int 0, .ref m_part, .ref m_fair, .ref m_heap, .ref m_pickTet, .ref m_pickEdge, .ref m_base, .ref m_baseM, .ref m_baseP, .ref m_rowsOf, .int 0, .ref m_grid, .ref m_times, .ref m_boxes, .ref m_cameFrom, .ref m_cameBy, .ref m_steps, .ref m_sides, .int (nI P.length), .int (-1), .ref m_next, .ref m_cube, .ref m_ways])), (m_boxes, .inl (cI, 3600, (.inl gb))), (m_cameFrom, .inl (cI, 1200, (.inl gc))), (m_cameBy, .inl (cI, 1200, (.inl gd))), (m_next, .inl (cI, 3, (.inl (upd (upd gn 0 (nI u0)) 1 (nI u1)))))] H := hP
        have hD : va_D A [(m0, .inr (11, [.int 0, .ref m_tape, .int 0, .int 0, .int 0, .ref m_read, .int 0, .int 0, .int 0, .ref m_tets, .int 0, .int 0, .int 0, .int 0, .int 0, .int 0, .int 0, .int 0, .ref m_primes, .ref m_often, .ref m_normal, .ref m_termM, .ref m_termP, .ref m_termV, .ref m_sumFrom, .ref m_sumMany, .int 0, .int 0, .int 0, .int 0, .ref m_part, .ref m_fair, .ref m_heap, .ref m_pickTet, .ref m_pickEdge, .ref m_base, .ref m_baseM, .ref m_baseP, .ref m_rowsOf, .int 0, .ref m_grid, .ref m_times, .ref m_boxes, .ref m_cameFrom, .ref m_cameBy, .ref m_steps, .ref m_sides, .int (nI P.length), .int (-1), .ref m_next, .ref m_cube, .ref m_ways])), (m_boxes, .inl (cI, 3600, (.inl gb))), (m_cameFrom, .inl (cI, 1200, (.inl gc))), (m_cameBy, .inl (cI, 1200, (.inl gd))), (m_next, .inl (cI, 3, (.inl (upd (upd gn 0 (nI u0)) 1 (nI u1)))))] := hD
        refine lv_iinc (v := 2) (lv' := [(5, .int 2), (0, .ref m0), (1, .int (nI k)), (2, .int 1), (3, .int 2), (4, .int (nI n))]) hx hb dX11_goesFrom_56 hl (k := 0) rfl (by decide) (by decide) rfl (fun ls hl => ?_)
        refine lv_goto (tgt := 32) hx hb dX11_goesFrom_59 (by decide) ?_
        refine lv_iload hx hb dX11_goesFrom_32 (lv_at hl 0 rfl) ?_
        refine lv_iconst (v := 3) hx hb dX11_goesFrom_34 (by decide) ?_
        refine lv_icmp_ge (tgt := 62) hx hb dX11_goesFrom_35 (by decide) (fun c => absurd c (by decide)) (fun _ => ?_)
        refine lv_aload_n hx hb dX11_goesFrom_38 rfl (lv_at hl 1 rfl) ?_
        refine va_get (D := (dC, dI)) (ci := 11) (v := .ref m_next) (C := RX11) (T := TX11) (N := 52) hx hb hts hiX11 hown hK hP 0 rfl rfl 49 (by decide) (hts (.fieldLink RX11 97 "ScissorsTableModel" "next" "[I") (by decide +kernel)) (fun _ h9 => h9) rfl dX11_goesFrom_39 ?_
        refine lv_iload hx hb dX11_goesFrom_42 (lv_at hl 0 rfl) ?_
        refine lv_aload_n hx hb dX11_goesFrom_44 rfl (lv_at hl 1 rfl) ?_
        refine va_get (D := (dC, dI)) (ci := 11) (v := .ref m_boxes) (C := RX11) (T := TX11) (N := 52) hx hb hts hiX11 hown hK hP 0 rfl rfl 42 (by decide) (hts (.fieldLink RX11 78 "ScissorsTableModel" "boxes" "[I") (by decide +kernel)) (fun _ h9 => h9) rfl dX11_goesFrom_45 ?_
        refine lv_iconst (v := 3) hx hb dX11_goesFrom_48 (by decide) ?_
        refine lv_iload_n hx hb dX11_goesFrom_49 rfl (lv_at hl 2 rfl) ?_
        refine lv_imul hx hb dX11_goesFrom_50 ?_
        refine lv_topi (fun x_62 ex_62 => ?_)
        obtain rfl : x_62 = nI (3 * k) := ex_62.trans (pk_mul 3 k)
        refine lv_iload hx hb dX11_goesFrom_51 (lv_at hl 0 rfl) ?_
        refine lv_iadd hx hb dX11_goesFrom_53 ?_
        refine lv_topi (fun x_63 ex_63 => ?_)
        obtain rfl : x_63 = nI ((3 * k) + 2) := ex_63.trans (nI_add (3 * k) 2)
        refine va_iald hx hb hK hP 1 1 rfl rfl (vp_in_nI (by omega) (by decide)) dX11_goesFrom_54 ?_
        refine lv_topi (fun x_64 ex_64 => ?_)
        rw [nI_clamp (show (3 * k) + 2 < 2 ^ 31 by omega)] at ex_64
        obtain rfl : x_64 = nI u2 := ex_64.trans ((hPR k _ hP0).2.2.1.trans (congrArg nI (bx_z (by omega))))
        refine va_iast hx hb hK hP hD hS 4 1 rfl rfl (by show ¬ (_ ∨ _); decide) dX11_goesFrom_55 (fun H locs hP hD hS => ?_)
        rw [show (2 : Int32).toNatClampNeg = 2 from rfl] at hP hD
        have hP : va_P (dC, dI) vwCl [(m0, .inr (11, [.int 0, .ref m_tape, .int 0, .int 0, .int 0, .ref m_read, .int 0, .int 0, .int 0, .ref m_tets, .int 0, .int 0, .int 0, .int 0, .int 0, .int 0, .int 0, .int 0, .ref m_primes, .ref m_often, .ref m_normal, .ref m_termM, .ref m_termP, .ref m_termV, .ref m_sumFrom, .ref m_sumMany, .int 0, .int 0, .int 0, .int 0, .ref m_part, .ref m_fair, .ref m_heap, .ref m_pickTet, .ref m_pickEdge, .ref m_base, .ref m_baseM, .ref m_baseP, .ref m_rowsOf, .int 0, .ref m_grid, .ref m_times, .ref m_boxes, .ref m_cameFrom, .ref m_cameBy, .ref m_steps, .ref m_sides, .int (nI P.length), .int (-1), .ref m_next, .ref m_cube, .ref m_ways])), (m_boxes, .inl (cI, 3600, (.inl gb))), (m_cameFrom, .inl (cI, 1200, (.inl gc))), (m_cameBy, .inl (cI, 1200, (.inl gd))), (m_next, .inl (cI, 3, (.inl (upd (upd (upd gn 0 (nI u0)) 1 (nI u1)) 2 (nI u2)))))] H := hP
        have hD : va_D A [(m0, .inr (11, [.int 0, .ref m_tape, .int 0, .int 0, .int 0, .ref m_read, .int 0, .int 0, .int 0, .ref m_tets, .int 0, .int 0, .int 0, .int 0, .int 0, .int 0, .int 0, .int 0, .ref m_primes, .ref m_often, .ref m_normal, .ref m_termM, .ref m_termP, .ref m_termV, .ref m_sumFrom, .ref m_sumMany, .int 0, .int 0, .int 0, .int 0, .ref m_part, .ref m_fair, .ref m_heap, .ref m_pickTet, .ref m_pickEdge, .ref m_base, .ref m_baseM, .ref m_baseP, .ref m_rowsOf, .int 0, .ref m_grid, .ref m_times, .ref m_boxes, .ref m_cameFrom, .ref m_cameBy, .ref m_steps, .ref m_sides, .int (nI P.length), .int (-1), .ref m_next, .ref m_cube, .ref m_ways])), (m_boxes, .inl (cI, 3600, (.inl gb))), (m_cameFrom, .inl (cI, 1200, (.inl gc))), (m_cameBy, .inl (cI, 1200, (.inl gd))), (m_next, .inl (cI, 3, (.inl (upd (upd (upd gn 0 (nI u0)) 1 (nI u1)) 2 (nI u2)))))] := hD
        refine lv_iinc (v := 3) (lv' := [(5, .int 3), (0, .ref m0), (1, .int (nI k)), (2, .int 1), (3, .int 2), (4, .int (nI n))]) hx hb dX11_goesFrom_56 hl (k := 0) rfl (by decide) (by decide) rfl (fun ls hl => ?_)
        refine lv_goto (tgt := 32) hx hb dX11_goesFrom_59 (by decide) ?_
        refine lv_iload hx hb dX11_goesFrom_32 (lv_at hl 0 rfl) ?_
        refine lv_iconst (v := 3) hx hb dX11_goesFrom_34 (by decide) ?_
        refine lv_icmp_ge (tgt := 62) hx hb dX11_goesFrom_35 (by decide) (fun _ => ?_) (fun c => absurd (by decide) c)
        refine lv_aload_n hx hb dX11_goesFrom_62 rfl (lv_at hl 1 rfl) ?_
        refine lv_iload_n hx hb dX11_goesFrom_63 rfl (lv_at hl 3 rfl) ?_
        refine lv_iload_n hx hb dX11_goesFrom_64 rfl (lv_at hl 4 rfl) ?_
        refine lv_iload hx hb dX11_goesFrom_65 (lv_at hl 5 rfl) ?_
        have hPc := hP.sub (ws' := [(m0, .inr (11, [.int 0, .ref m_tape, .int 0, .int 0, .int 0, .ref m_read, .int 0, .int 0, .int 0, .ref m_tets, .int 0, .int 0, .int 0, .int 0, .int 0, .int 0, .int 0, .int 0, .ref m_primes, .ref m_often, .ref m_normal, .ref m_termM, .ref m_termP, .ref m_termV, .ref m_sumFrom, .ref m_sumMany, .int 0, .int 0, .int 0, .int 0, .ref m_part, .ref m_fair, .ref m_heap, .ref m_pickTet, .ref m_pickEdge, .ref m_base, .ref m_baseM, .ref m_baseP, .ref m_rowsOf, .int 0, .ref m_grid, .ref m_times, .ref m_boxes, .ref m_cameFrom, .ref m_cameBy, .ref m_steps, .ref m_sides, .int (nI P.length), .int (-1), .ref m_next, .ref m_cube, .ref m_ways])), (m_next, .inl (cI, 3, (.inl (upd (upd (upd gn 0 (nI u0)) 1 (nI u1)) 2 (nI u2)))))]) [0, 4] rfl
        have hDc := hD.sub (ws' := [(m0, .inr (11, [.int 0, .ref m_tape, .int 0, .int 0, .int 0, .ref m_read, .int 0, .int 0, .int 0, .ref m_tets, .int 0, .int 0, .int 0, .int 0, .int 0, .int 0, .int 0, .int 0, .ref m_primes, .ref m_often, .ref m_normal, .ref m_termM, .ref m_termP, .ref m_termV, .ref m_sumFrom, .ref m_sumMany, .int 0, .int 0, .int 0, .int 0, .ref m_part, .ref m_fair, .ref m_heap, .ref m_pickTet, .ref m_pickEdge, .ref m_base, .ref m_baseM, .ref m_baseP, .ref m_rowsOf, .int 0, .ref m_grid, .ref m_times, .ref m_boxes, .ref m_cameFrom, .ref m_cameBy, .ref m_steps, .ref m_sides, .int (nI P.length), .int (-1), .ref m_next, .ref m_cube, .ref m_ways])), (m_next, .inl (cI, 3, (.inl (upd (upd (upd gn 0 (nI u0)) 1 (nI u1)) 2 (nI u2)))))]) [0, 4] (by decide) rfl
        have hFc := va_free (wc := [(m0, .inr (11, [.int 0, .ref m_tape, .int 0, .int 0, .int 0, .ref m_read, .int 0, .int 0, .int 0, .ref m_tets, .int 0, .int 0, .int 0, .int 0, .int 0, .int 0, .int 0, .int 0, .ref m_primes, .ref m_often, .ref m_normal, .ref m_termM, .ref m_termP, .ref m_termV, .ref m_sumFrom, .ref m_sumMany, .int 0, .int 0, .int 0, .int 0, .ref m_part, .ref m_fair, .ref m_heap, .ref m_pickTet, .ref m_pickEdge, .ref m_base, .ref m_baseM, .ref m_baseP, .ref m_rowsOf, .int 0, .ref m_grid, .ref m_times, .ref m_boxes, .ref m_cameFrom, .ref m_cameBy, .ref m_steps, .ref m_sides, .int (nI P.length), .int (-1), .ref m_next, .ref m_cube, .ref m_ways])), (m_next, .inl (cI, 3, (.inl (upd (upd (upd gn 0 (nI u0)) 1 (nI u1)) 2 (nI u2)))))]) hD hS hA [0, 4] rfl
        refine va_calli (va_runV (As := [.int 1, .int 2, .int (nI n)]) (rest := []) ⟨hx, hb, hml, hown, hts⟩ (c_X11_goes__12 l dC dI cB cI cJ H.size m0 m_tape m_read m_tets m_primes m_often m_normal m_termM m_termP m_termV m_sumFrom m_sumMany m_part m_fair m_heap m_pickTet m_pickEdge m_base m_baseM m_baseP m_rowsOf m_grid m_times m_boxes m_cameFrom m_cameBy m_steps m_sides m_next m_cube m_ways (nI P.length) (upd (upd (upd gn 0 (nI u0)) 1 (nI u1)) 2 (nI u2)) u0 u1 u2 n hu (by omega) (⟨rfl, rfl, rfl⟩)) (cwV 3 hts gX11_goesFrom_X11_goes_ rfl rfl rfl (by decide +kernel) ⟨Nat.le_of_ble_eq_true rfl, Nat.le_of_ble_eq_true rfl⟩) ⟨fun a U g mk q => by obtain ⟨q0, q1, qP, qK, qD⟩ := q; exact ⟨q0, q1, qP, va_K.moved (u := U) (U := U.calling g mk a) (Vm.Alike.refl U.vm) qK, qD⟩, va_recv hK hP (ci := 11) (q0 := 0) rfl rfl, fun U hU hW => ⟨rfl, by rw [hU], by rw [hU]; exact hPc, va_K.moved hW.alike hK, hDc.weaken (fun _ _ _ _ => trivial)⟩⟩ rfl rfl hl.1 rfl (lv_room (Nat.le_of_ble_eq_true rfl)) dX11_goesFrom_67 ⟨Nat.le_of_ble_eq_true rfl, Nat.le_of_ble_eq_true rfl⟩) hS (fun q _ h => hFc q h) hFc (fun r_65 u t H1 locs ht hvm hw hB hz1 hk1 hS => ?_)
        obtain ⟨g_66, h_67, hP1, hK1, hD1⟩ := hB
        rw [ht] at hP1
        obtain ⟨hP, hD⟩ := va_join (wr := [(m_boxes, .inl (cI, 3600, (.inl gb))), (m_cameFrom, .inl (cI, 1200, (.inl gc))), (m_cameBy, .inl (cI, 1200, (.inl gd)))]) (w1 := [(m0, .inr (11, [.int 0, .ref m_tape, .int 0, .int 0, .int 0, .ref m_read, .int 0, .int 0, .int 0, .ref m_tets, .int 0, .int 0, .int 0, .int 0, .int 0, .int 0, .int 0, .int 0, .ref m_primes, .ref m_often, .ref m_normal, .ref m_termM, .ref m_termP, .ref m_termV, .ref m_sumFrom, .ref m_sumMany, .int 0, .int 0, .int 0, .int 0, .ref m_part, .ref m_fair, .ref m_heap, .ref m_pickTet, .ref m_pickEdge, .ref m_base, .ref m_baseM, .ref m_baseP, .ref m_rowsOf, .int 0, .ref m_grid, .ref m_times, .ref m_boxes, .ref m_cameFrom, .ref m_cameBy, .ref m_steps, .ref m_sides, .int (nI P.length), .int (-1), .ref m_next, .ref m_cube, .ref m_ways])), (m_next, .inl (cI, 3, (.inl g_66)))]) hP hD [0, 4] [1, 2, 3] rfl rfl (by decide) (by decide) hk1 hFc hP1 hD1
        generalize H1 = H at hP hS ⊢
        have hP : va_P (dC, dI) vwCl [(m_boxes, .inl (cI, 3600, (.inl gb))), (m_cameFrom, .inl (cI, 1200, (.inl gc))), (m_cameBy, .inl (cI, 1200, (.inl gd))), (m0, .inr (11, [.int 0, .ref m_tape, .int 0, .int 0, .int 0, .ref m_read, .int 0, .int 0, .int 0, .ref m_tets, .int 0, .int 0, .int 0, .int 0, .int 0, .int 0, .int 0, .int 0, .ref m_primes, .ref m_often, .ref m_normal, .ref m_termM, .ref m_termP, .ref m_termV, .ref m_sumFrom, .ref m_sumMany, .int 0, .int 0, .int 0, .int 0, .ref m_part, .ref m_fair, .ref m_heap, .ref m_pickTet, .ref m_pickEdge, .ref m_base, .ref m_baseM, .ref m_baseP, .ref m_rowsOf, .int 0, .ref m_grid, .ref m_times, .ref m_boxes, .ref m_cameFrom, .ref m_cameBy, .ref m_steps, .ref m_sides, .int (nI P.length), .int (-1), .ref m_next, .ref m_cube, .ref m_ways])), (m_next, .inl (cI, 3, (.inl g_66)))] H := hP
        have hD : va_D A [(m_boxes, .inl (cI, 3600, (.inl gb))), (m_cameFrom, .inl (cI, 1200, (.inl gc))), (m_cameBy, .inl (cI, 1200, (.inl gd))), (m0, .inr (11, [.int 0, .ref m_tape, .int 0, .int 0, .int 0, .ref m_read, .int 0, .int 0, .int 0, .ref m_tets, .int 0, .int 0, .int 0, .int 0, .int 0, .int 0, .int 0, .int 0, .ref m_primes, .ref m_often, .ref m_normal, .ref m_termM, .ref m_termP, .ref m_termV, .ref m_sumFrom, .ref m_sumMany, .int 0, .int 0, .int 0, .int 0, .ref m_part, .ref m_fair, .ref m_heap, .ref m_pickTet, .ref m_pickEdge, .ref m_base, .ref m_baseM, .ref m_baseP, .ref m_rowsOf, .int 0, .ref m_grid, .ref m_times, .ref m_boxes, .ref m_cameFrom, .ref m_cameBy, .ref m_steps, .ref m_sides, .int (nI P.length), .int (-1), .ref m_next, .ref m_cube, .ref m_ways])), (m_next, .inl (cI, 3, (.inl g_66)))] := hD
        have hr_65 := hw
        rcases hr_65 with ⟨rfl, hok⟩ | ⟨rfl, hok⟩
        · have hPT : q_sees k (d + 1) (nb_n u0 u1 u2 1 2 (25 - (n + 1)) (n + 1) ++ (nb_n u0 u1 u2 2 0 23 2 ++ (nb_n u0 u1 u2 2 1 23 2 ++ []))) P = T := (congrArg (fun L9 => q_sees k (d + 1) (L9 ++ (nb_n u0 u1 u2 2 0 23 2 ++ (nb_n u0 u1 u2 2 1 23 2 ++ []))) P) (nb_no (x := u0) (y := u1) (z := u2) (i := 1) (j := 2) (f := 25 - (n + 1)) (n := n) hok)).symm.trans hPT
          refine lv_if_eq (tgt := 110) hx hb dX11_goesFrom_70 (by decide) (fun _ => ?_) (fun c => absurd (by decide) c)
          obtain ⟨x_68, ex_68⟩ : ∃ y : Int32, y = (nI n) + 1 := ⟨_, rfl⟩
          refine lv_iinc (v := x_68) (lv' := [(4, .int x_68), (5, .int 3), (0, .ref m0), (1, .int (nI k)), (2, .int 1), (3, .int 2)]) hx hb dX11_goesFrom_110 hl (k := 5) rfl (by rw [ex_68]; rfl) (by decide) rfl (fun ls hl => ?_)
          obtain rfl : x_68 = nI (n + 1) := ex_68.trans (nI_1 n)
          have hl : lv_has ls 6 [(4, .int (nI (n + 1))), (5, .int 3), (0, .ref m0), (1, .int (nI k)), (2, .int 1), (3, .int 2)] := hl
          refine lv_goto (tgt := 17) hx hb dX11_goesFrom_113 (by decide) ?_
          exact out _ _ _ (ih12 (n + 1) P gb gc gd _ (by omega) (by omega) (by omega) hP0 hPI hPR hPT _ _ (hP.sub [3, 0, 1, 2, 4] rfl) (hD.sub [3, 0, 1, 2, 4] (by decide) rfl) hS ls (lv_sub hl [2, 3, 4, 5, 0] rfl))
        · have hPT : q_sees k (d + 1) ((st_go u0 u1 u2 1 2 n :: nb_n u0 u1 u2 1 2 (25 - (n + 1)) (n + 1)) ++ (nb_n u0 u1 u2 2 0 23 2 ++ (nb_n u0 u1 u2 2 1 23 2 ++ []))) P = T := (congrArg (fun L9 => q_sees k (d + 1) (L9 ++ (nb_n u0 u1 u2 2 0 23 2 ++ (nb_n u0 u1 u2 2 1 23 2 ++ []))) P) (nb_yes (x := u0) (y := u1) (z := u2) (i := 1) (j := 2) (f := 25 - (n + 1)) (n := n) hok)).symm.trans hPT
          have hgz := h_67 hok
          have o1 : u1 % n = 0 := hok.1
          have o2 : u2 % (n - 1) = 0 := hok.2.1
          have o3 : u2 / (n - 1) * n ≤ 24 := hok.2.2
          have l1 := st_lo h6 (show 1 ≤ u1 by omega) (show u1 ≤ 24 by omega) o1
          have l2 := st_hi h6 (show 1 ≤ u2 by omega) o2
          have hgo : bx_in V (st_go u0 u1 u2 1 2 n) := st_go_in hu.1 hu.2.1 hu.2.2 hV (by decide) (by decide) (by decide) h6 (st_ok_iff.mpr hok)
          refine lv_if_eq (tgt := 110) hx hb dX11_goesFrom_70 (by decide) (fun c => absurd c (by decide)) (fun _ => ?_)
          refine lv_aload_n hx hb dX11_goesFrom_73 rfl (lv_at hl 1 rfl) ?_
          refine lv_aload_n hx hb dX11_goesFrom_74 rfl (lv_at hl 1 rfl) ?_
          refine va_get (D := (dC, dI)) (ci := 11) (v := .ref m_next) (C := RX11) (T := TX11) (N := 52) hx hb hts hiX11 hown hK hP 3 rfl rfl 49 (by decide) (hts (.fieldLink RX11 97 "ScissorsTableModel" "next" "[I") (by decide +kernel)) (fun _ h9 => h9) rfl dX11_goesFrom_75 ?_
          refine lv_iconst (v := 0) hx hb dX11_goesFrom_78 (by decide) ?_
          refine va_iald hx hb hK hP 4 1 rfl rfl (by show ¬ (_ ∨ _); decide) dX11_goesFrom_79 ?_
          refine lv_topi (fun x_69 ex_69 => ?_)
          have ex_69 : x_69 = g_66 0 := ex_69
          obtain rfl : x_69 = nI (u0) := ex_69.trans hgz.1
          refine lv_aload_n hx hb dX11_goesFrom_80 rfl (lv_at hl 1 rfl) ?_
          refine va_get (D := (dC, dI)) (ci := 11) (v := .ref m_next) (C := RX11) (T := TX11) (N := 52) hx hb hts hiX11 hown hK hP 3 rfl rfl 49 (by decide) (hts (.fieldLink RX11 97 "ScissorsTableModel" "next" "[I") (by decide +kernel)) (fun _ h9 => h9) rfl dX11_goesFrom_81 ?_
          refine lv_iconst (v := 1) hx hb dX11_goesFrom_84 (by decide) ?_
          refine va_iald hx hb hK hP 4 1 rfl rfl (by show ¬ (_ ∨ _); decide) dX11_goesFrom_85 ?_
          refine lv_topi (fun x_70 ex_70 => ?_)
          have ex_70 : x_70 = g_66 1 := ex_70
          obtain rfl : x_70 = nI (u1 / n * (n - 1)) := ex_70.trans hgz.2.1
          refine lv_aload_n hx hb dX11_goesFrom_86 rfl (lv_at hl 1 rfl) ?_
          refine va_get (D := (dC, dI)) (ci := 11) (v := .ref m_next) (C := RX11) (T := TX11) (N := 52) hx hb hts hiX11 hown hK hP 3 rfl rfl 49 (by decide) (hts (.fieldLink RX11 97 "ScissorsTableModel" "next" "[I") (by decide +kernel)) (fun _ h9 => h9) rfl dX11_goesFrom_87 ?_
          refine lv_iconst (v := 2) hx hb dX11_goesFrom_90 (by decide) ?_
          refine va_iald hx hb hK hP 4 1 rfl rfl (by show ¬ (_ ∨ _); decide) dX11_goesFrom_91 ?_
          refine lv_topi (fun x_71 ex_71 => ?_)
          have ex_71 : x_71 = g_66 2 := ex_71
          obtain rfl : x_71 = nI (u2 / (n - 1) * n) := ex_71.trans hgz.2.2
          refine lv_iload_n hx hb dX11_goesFrom_92 rfl (lv_at hl 2 rfl) ?_
          refine lv_bipush (v := 72) hx hb dX11_goesFrom_93 (by decide) ?_
          refine lv_iload_n hx hb dX11_goesFrom_95 rfl (lv_at hl 3 rfl) ?_
          refine lv_imul hx hb dX11_goesFrom_96 ?_
          refine lv_topi (fun x_72 ex_72 => ?_)
          obtain rfl : x_72 = 72 := ex_72.trans (by first | rfl | decide)
          refine lv_bipush (v := 24) hx hb dX11_goesFrom_97 (by decide) ?_
          refine lv_iload_n hx hb dX11_goesFrom_99 rfl (lv_at hl 4 rfl) ?_
          refine lv_imul hx hb dX11_goesFrom_100 ?_
          refine lv_topi (fun x_73 ex_73 => ?_)
          obtain rfl : x_73 = 48 := ex_73.trans (by first | rfl | decide)
          refine lv_iadd hx hb dX11_goesFrom_101 ?_
          refine lv_topi (fun x_74 ex_74 => ?_)
          obtain rfl : x_74 = 120 := ex_74.trans (by first | rfl | decide)
          refine lv_iload hx hb dX11_goesFrom_102 (lv_at hl 5 rfl) ?_
          refine lv_iadd hx hb dX11_goesFrom_104 ?_
          refine lv_topi (fun x_75 ex_75 => ?_)
          obtain rfl : x_75 = nI (120 + n) := ex_75.trans (nI_add 120 n)
          refine lv_iconst (v := 1) hx hb dX11_goesFrom_105 (by decide) ?_
          refine lv_isub hx hb dX11_goesFrom_106 ?_
          refine lv_topi (fun x_76 ex_76 => ?_)
          obtain rfl : x_76 = nI ((120 + n) - 1) := ex_76.trans (pk_sub (a := 120 + n) (b := 1) (by omega))
          have hvv : u0 * (u1 / n * (n - 1)) * (u2 / (n - 1) * n) = V := by
            obtain ⟨s0, s1, s2, g0, g1, g2, g3, g4⟩ := hgo
            have g4 : bx_mk u0 (u1 / n * (n - 1)) (u2 / (n - 1) * n) = bx_mk s0 s1 s2 := g4
            have g5 := bx_mk_inj g4 (by omega)
            rw [g5.1, g5.2.1, g5.2.2]
            exact g3
          have hPc := hP.sub (ws' := [(m0, .inr (11, [.int 0, .ref m_tape, .int 0, .int 0, .int 0, .ref m_read, .int 0, .int 0, .int 0, .ref m_tets, .int 0, .int 0, .int 0, .int 0, .int 0, .int 0, .int 0, .int 0, .ref m_primes, .ref m_often, .ref m_normal, .ref m_termM, .ref m_termP, .ref m_termV, .ref m_sumFrom, .ref m_sumMany, .int 0, .int 0, .int 0, .int 0, .ref m_part, .ref m_fair, .ref m_heap, .ref m_pickTet, .ref m_pickEdge, .ref m_base, .ref m_baseM, .ref m_baseP, .ref m_rowsOf, .int 0, .ref m_grid, .ref m_times, .ref m_boxes, .ref m_cameFrom, .ref m_cameBy, .ref m_steps, .ref m_sides, .int (nI P.length), .int (-1), .ref m_next, .ref m_cube, .ref m_ways])), (m_boxes, .inl (cI, 3600, (.inl gb))), (m_cameFrom, .inl (cI, 1200, (.inl gc))), (m_cameBy, .inl (cI, 1200, (.inl gd)))]) [3, 0, 1, 2] rfl
          have hDc := hD.sub (ws' := [(m0, .inr (11, [.int 0, .ref m_tape, .int 0, .int 0, .int 0, .ref m_read, .int 0, .int 0, .int 0, .ref m_tets, .int 0, .int 0, .int 0, .int 0, .int 0, .int 0, .int 0, .int 0, .ref m_primes, .ref m_often, .ref m_normal, .ref m_termM, .ref m_termP, .ref m_termV, .ref m_sumFrom, .ref m_sumMany, .int 0, .int 0, .int 0, .int 0, .ref m_part, .ref m_fair, .ref m_heap, .ref m_pickTet, .ref m_pickEdge, .ref m_base, .ref m_baseM, .ref m_baseP, .ref m_rowsOf, .int 0, .ref m_grid, .ref m_times, .ref m_boxes, .ref m_cameFrom, .ref m_cameBy, .ref m_steps, .ref m_sides, .int (nI P.length), .int (-1), .ref m_next, .ref m_cube, .ref m_ways])), (m_boxes, .inl (cI, 3600, (.inl gb))), (m_cameFrom, .inl (cI, 1200, (.inl gc))), (m_cameBy, .inl (cI, 1200, (.inl gd)))]) [3, 0, 1, 2] (by decide) rfl
          have hFc := va_free (wc := [(m0, .inr (11, [.int 0, .ref m_tape, .int 0, .int 0, .int 0, .ref m_read, .int 0, .int 0, .int 0, .ref m_tets, .int 0, .int 0, .int 0, .int 0, .int 0, .int 0, .int 0, .int 0, .ref m_primes, .ref m_often, .ref m_normal, .ref m_termM, .ref m_termP, .ref m_termV, .ref m_sumFrom, .ref m_sumMany, .int 0, .int 0, .int 0, .int 0, .ref m_part, .ref m_fair, .ref m_heap, .ref m_pickTet, .ref m_pickEdge, .ref m_base, .ref m_baseM, .ref m_baseP, .ref m_rowsOf, .int 0, .ref m_grid, .ref m_times, .ref m_boxes, .ref m_cameFrom, .ref m_cameBy, .ref m_steps, .ref m_sides, .int (nI P.length), .int (-1), .ref m_next, .ref m_cube, .ref m_ways])), (m_boxes, .inl (cI, 3600, (.inl gb))), (m_cameFrom, .inl (cI, 1200, (.inl gc))), (m_cameBy, .inl (cI, 1200, (.inl gd)))]) hD hS hA [3, 0, 1, 2] rfl
          refine va_callv (va_runV (As := [.int (nI (u0)), .int (nI (u1 / n * (n - 1))), .int (nI (u2 / (n - 1) * n)), .int (nI k), .int (nI ((120 + n) - 1))]) (rest := []) ⟨hx, hb, hml, hown, hts⟩ (c_X11_meetsBox l dC dI cB cI cJ H.size m0 m_tape m_read m_tets m_primes m_often m_normal m_termM m_termP m_termV m_sumFrom m_sumMany m_part m_fair m_heap m_pickTet m_pickEdge m_base m_baseM m_baseP m_rowsOf m_grid m_times m_boxes m_cameFrom m_cameBy m_steps m_sides m_next m_cube m_ways P gb gc gd V u0 (u1 / n * (n - 1)) (u2 / (n - 1) * n) k (d + 1) (nI k) (nI ((120 + n) - 1)) (by omega) hvv hPI hPR (by omega) ((if_neg (by omega)).symm)) (cwV 5 hts gX11_goesFrom_X11_meetsBox rfl rfl rfl (by decide +kernel) ⟨Nat.le_of_ble_eq_true rfl, Nat.le_of_ble_eq_true rfl⟩) ⟨fun a U g mk q => by obtain ⟨q0, q1, qP, qK, qD⟩ := q; exact ⟨q0, q1, qP, va_K.moved (u := U) (U := U.calling g mk a) (Vm.Alike.refl U.vm) qK, qD⟩, va_recv hK hP (ci := 11) (q0 := 3) rfl rfl, fun U hU hW => ⟨rfl, by rw [hU], by rw [hU]; exact hPc, va_K.moved hW.alike hK, hDc.weaken (fun _ _ _ _ => trivial)⟩⟩ rfl rfl hl.1 rfl (lv_room (Nat.le_of_ble_eq_true rfl)) dX11_goesFrom_107 ⟨Nat.le_of_ble_eq_true rfl, Nat.le_of_ble_eq_true rfl⟩) hS (fun q _ h => hFc q h) hFc (fun u t H1 locs ht hvm hw hB hz1 hk1 hS => ?_)
          obtain ⟨g_77, g_78, g_79, h_80, hP1, hK1, hD1⟩ := hB
          rw [ht] at hP1
          obtain ⟨hP, hD⟩ := va_join (wr := [(m_next, .inl (cI, 3, (.inl g_66)))]) (w1 := [(m0, .inr (11, [.int 0, .ref m_tape, .int 0, .int 0, .int 0, .ref m_read, .int 0, .int 0, .int 0, .ref m_tets, .int 0, .int 0, .int 0, .int 0, .int 0, .int 0, .int 0, .int 0, .ref m_primes, .ref m_often, .ref m_normal, .ref m_termM, .ref m_termP, .ref m_termV, .ref m_sumFrom, .ref m_sumMany, .int 0, .int 0, .int 0, .int 0, .ref m_part, .ref m_fair, .ref m_heap, .ref m_pickTet, .ref m_pickEdge, .ref m_base, .ref m_baseM, .ref m_baseP, .ref m_rowsOf, .int 0, .ref m_grid, .ref m_times, .ref m_boxes, .ref m_cameFrom, .ref m_cameBy, .ref m_steps, .ref m_sides, .int (nI (q_see P k (d + 1) (bx_mk u0 (u1 / n * (n - 1)) (u2 / (n - 1) * n))).length), .int (-1), .ref m_next, .ref m_cube, .ref m_ways])), (m_boxes, .inl (cI, 3600, (.inl g_77))), (m_cameFrom, .inl (cI, 1200, (.inl g_78))), (m_cameBy, .inl (cI, 1200, (.inl g_79)))]) hP hD [3, 0, 1, 2] [4] rfl rfl (by decide) (by decide) hk1 hFc hP1 hD1
          generalize H1 = H at hP hS ⊢
          have hP : va_P (dC, dI) vwCl [(m_next, .inl (cI, 3, (.inl g_66))), (m0, .inr (11, [.int 0, .ref m_tape, .int 0, .int 0, .int 0, .ref m_read, .int 0, .int 0, .int 0, .ref m_tets, .int 0, .int 0, .int 0, .int 0, .int 0, .int 0, .int 0, .int 0, .ref m_primes, .ref m_often, .ref m_normal, .ref m_termM, .ref m_termP, .ref m_termV, .ref m_sumFrom, .ref m_sumMany, .int 0, .int 0, .int 0, .int 0, .ref m_part, .ref m_fair, .ref m_heap, .ref m_pickTet, .ref m_pickEdge, .ref m_base, .ref m_baseM, .ref m_baseP, .ref m_rowsOf, .int 0, .ref m_grid, .ref m_times, .ref m_boxes, .ref m_cameFrom, .ref m_cameBy, .ref m_steps, .ref m_sides, .int (nI (q_see P k (d + 1) (bx_mk u0 (u1 / n * (n - 1)) (u2 / (n - 1) * n))).length), .int (-1), .ref m_next, .ref m_cube, .ref m_ways])), (m_boxes, .inl (cI, 3600, (.inl g_77))), (m_cameFrom, .inl (cI, 1200, (.inl g_78))), (m_cameBy, .inl (cI, 1200, (.inl g_79)))] H := hP
          have hD : va_D A [(m_next, .inl (cI, 3, (.inl g_66))), (m0, .inr (11, [.int 0, .ref m_tape, .int 0, .int 0, .int 0, .ref m_read, .int 0, .int 0, .int 0, .ref m_tets, .int 0, .int 0, .int 0, .int 0, .int 0, .int 0, .int 0, .int 0, .ref m_primes, .ref m_often, .ref m_normal, .ref m_termM, .ref m_termP, .ref m_termV, .ref m_sumFrom, .ref m_sumMany, .int 0, .int 0, .int 0, .int 0, .ref m_part, .ref m_fair, .ref m_heap, .ref m_pickTet, .ref m_pickEdge, .ref m_base, .ref m_baseM, .ref m_baseP, .ref m_rowsOf, .int 0, .ref m_grid, .ref m_times, .ref m_boxes, .ref m_cameFrom, .ref m_cameBy, .ref m_steps, .ref m_sides, .int (nI (q_see P k (d + 1) (bx_mk u0 (u1 / n * (n - 1)) (u2 / (n - 1) * n))).length), .int (-1), .ref m_next, .ref m_cube, .ref m_ways])), (m_boxes, .inl (cI, 3600, (.inl g_77))), (m_cameFrom, .inl (cI, 1200, (.inl g_78))), (m_cameBy, .inl (cI, 1200, (.inl g_79)))] := hD
          have hPT : q_sees k (d + 1) (nb_n u0 u1 u2 1 2 (25 - (n + 1)) (n + 1) ++ (nb_n u0 u1 u2 2 0 23 2 ++ (nb_n u0 u1 u2 2 1 23 2 ++ []))) (q_see P k (d + 1) (bx_mk u0 (u1 / n * (n - 1)) (u2 / (n - 1) * n))) = T := hPT
          obtain ⟨x_81, ex_81⟩ : ∃ y : Int32, y = (nI n) + 1 := ⟨_, rfl⟩
          refine lv_iinc (v := x_81) (lv' := [(4, .int x_81), (5, .int 3), (0, .ref m0), (1, .int (nI k)), (2, .int 1), (3, .int 2)]) hx hb dX11_goesFrom_110 hl (k := 5) rfl (by rw [ex_81]; rfl) (by decide) rfl (fun ls hl => ?_)
          obtain rfl : x_81 = nI (n + 1) := ex_81.trans (nI_1 n)
          have hl : lv_has ls 6 [(4, .int (nI (n + 1))), (5, .int 3), (0, .ref m0), (1, .int (nI k)), (2, .int 1), (3, .int 2)] := hl
          refine lv_goto (tgt := 17) hx hb dX11_goesFrom_113 (by decide) ?_
          exact out _ _ _ (ih12 (n + 1) _ _ _ _ _ (by omega) (by omega) (by omega) (q_pre_at (q_see_pre P k (d + 1) (bx_mk u0 (u1 / n * (n - 1)) (u2 / (n - 1) * n))) hP0) (q_in_add hPI hgo) h_80 hPT _ _ (hP.sub [1, 2, 3, 4, 0] rfl) (hD.sub [1, 2, 3, 4, 0] (by decide) rfl) hS ls (lv_sub hl [2, 3, 4, 5, 0] rfl))
  have loop10 : ∀ (f10 : Nat) (n : Nat) (P : List qE) (gb : Nat → Int32) (gc : Nat → Int32) (gd : Nat → Int32) (gn : Nat → Int32) (h5 : n + f10 = 26) (h6 : 2 ≤ n) (h7 : n ≤ 25) (hP0 : P[k]? = some (bx_mk u0 u1 u2, pk, d)) (hPI : q_in V P) (hPR : RR P gb gc) (hPT : q_sees k (d + 1) (nb_n u0 u1 u2 1 0 (25 - n) n ++ (nb_n u0 u1 u2 1 2 23 2 ++ (nb_n u0 u1 u2 2 0 23 2 ++ (nb_n u0 u1 u2 2 1 23 2 ++ [])))) P = T) (H : Heap) (locs : List Loc) (_ : va_P (dC, dI) vwCl [(m0, .inr (11, [.int 0, .ref m_tape, .int 0, .int 0, .int 0, .ref m_read, .int 0, .int 0, .int 0, .ref m_tets, .int 0, .int 0, .int 0, .int 0, .int 0, .int 0, .int 0, .int 0, .ref m_primes, .ref m_often, .ref m_normal, .ref m_termM, .ref m_termP, .ref m_termV, .ref m_sumFrom, .ref m_sumMany, .int 0, .int 0, .int 0, .int 0, .ref m_part, .ref m_fair, .ref m_heap, .ref m_pickTet, .ref m_pickEdge, .ref m_base, .ref m_baseM, .ref m_baseP, .ref m_rowsOf, .int 0, .ref m_grid, .ref m_times, .ref m_boxes, .ref m_cameFrom, .ref m_cameBy, .ref m_steps, .ref m_sides, .int (nI P.length), .int (-1), .ref m_next, .ref m_cube, .ref m_ways])), (m_boxes, .inl (cI, 3600, (.inl gb))), (m_cameFrom, .inl (cI, 1200, (.inl gc))), (m_cameBy, .inl (cI, 1200, (.inl gd))), (m_next, .inl (cI, 3, (.inl gn)))] H) (_ : va_D A [(m0, .inr (11, [.int 0, .ref m_tape, .int 0, .int 0, .int 0, .ref m_read, .int 0, .int 0, .int 0, .ref m_tets, .int 0, .int 0, .int 0, .int 0, .int 0, .int 0, .int 0, .int 0, .ref m_primes, .ref m_often, .ref m_normal, .ref m_termM, .ref m_termP, .ref m_termV, .ref m_sumFrom, .ref m_sumMany, .int 0, .int 0, .int 0, .int 0, .ref m_part, .ref m_fair, .ref m_heap, .ref m_pickTet, .ref m_pickEdge, .ref m_base, .ref m_baseM, .ref m_baseP, .ref m_rowsOf, .int 0, .ref m_grid, .ref m_times, .ref m_boxes, .ref m_cameFrom, .ref m_cameBy, .ref m_steps, .ref m_sides, .int (nI P.length), .int (-1), .ref m_next, .ref m_cube, .ref m_ways])), (m_boxes, .inl (cI, 3600, (.inl gb))), (m_cameFrom, .inl (cI, 1200, (.inl gc))), (m_cameBy, .inl (cI, 1200, (.inl gd))), (m_next, .inl (cI, 3, (.inl gn)))]) (_ : va_S A s.heap H locs) (ls : Array Slot) (_ : lv_has ls 6 [(0, .ref m0), (1, .int (nI k)), (2, .int 1), (3, .int 0), (4, .int (nI n))]), G H locs (F0 m 17 ls []) := by
    intro f10
    induction f10 with
    | zero =>
      intro n P gb gc gd gn h5 h6 h7 hP0 hPI hPR hPT H locs hP hD hS ls hl
      exfalso; omega
    | succ f10 ih10 =>
      intro n P gb gc gd gn h5 h6 h7 hP0 hPI hPR hPT H locs hP hD hS ls hl
      refine inn _ _ _ ?_
      have hPl : P.length ≤ 96 := Nat.le_trans (q_pre_len (hPT ▸ q_sees_pre k (d + 1) (nb_n u0 u1 u2 1 0 (25 - n) n ++ (nb_n u0 u1 u2 1 2 23 2 ++ (nb_n u0 u1 u2 2 0 23 2 ++ (nb_n u0 u1 u2 2 1 23 2 ++ [])))) P)) hTl
      have hkl := q_lt hP0
      refine lv_iload hx hb dX11_goesFrom_17 (lv_at hl 4 rfl) ?_
      refine lv_bipush (v := 24) hx hb dX11_goesFrom_19 (by decide) ?_
      refine lv_icmp_gt (tgt := 116) hx hb dX11_goesFrom_21 (by decide) (fun c_82 => ?_) (fun c_82 => ?_)
      · have c_82 : 24 < n := (nI_ltI (a := 24) (b := n) (by omega) (by omega)).mp c_82
        have hPT : q_sees k (d + 1) (nb_n u0 u1 u2 1 2 23 2 ++ (nb_n u0 u1 u2 2 0 23 2 ++ (nb_n u0 u1 u2 2 1 23 2 ++ []))) P = T := by
          rw [show 25 - n = 0 by omega] at hPT
          exact hPT
        refine lv_iinc (v := 1) (lv' := [(3, .int 1), (0, .ref m0), (1, .int (nI k)), (2, .int 1), (4, .int (nI n))]) hx hb dX11_goesFrom_116 hl (k := 3) rfl (by decide) (by decide) rfl (fun ls hl => ?_)
        refine lv_goto (tgt := 9) hx hb dX11_goesFrom_119 (by decide) ?_
        refine lv_iload_n hx hb dX11_goesFrom_9 rfl (lv_at hl 0 rfl) ?_
        refine lv_iconst (v := 3) hx hb dX11_goesFrom_10 (by decide) ?_
        refine lv_icmp_ge (tgt := 122) hx hb dX11_goesFrom_11 (by decide) (fun c => absurd c (by decide)) (fun _ => ?_)
        refine lv_iconst (v := 2) hx hb dX11_goesFrom_14 (by decide) ?_
        refine lv_istore (lv' := [(4, .int 2), (3, .int 1), (0, .ref m0), (1, .int (nI k)), (2, .int 1)]) hx hb dX11_goesFrom_15 hl (by decide) rfl (fun ls hl => ?_)
        refine lv_iload hx hb dX11_goesFrom_17 (lv_at hl 0 rfl) ?_
        refine lv_bipush (v := 24) hx hb dX11_goesFrom_19 (by decide) ?_
        refine lv_icmp_gt (tgt := 116) hx hb dX11_goesFrom_21 (by decide) (fun c => absurd c (by decide)) (fun _ => ?_)
        refine lv_iload_n hx hb dX11_goesFrom_24 rfl (lv_at hl 4 rfl) ?_
        refine lv_iload_n hx hb dX11_goesFrom_25 rfl (lv_at hl 1 rfl) ?_
        refine lv_icmp_eq (tgt := 116) hx hb dX11_goesFrom_26 (by decide) (fun _ => ?_) (fun c => absurd (by decide) c)
        refine lv_iinc (v := 2) (lv' := [(3, .int 2), (4, .int 2), (0, .ref m0), (1, .int (nI k)), (2, .int 1)]) hx hb dX11_goesFrom_116 hl (k := 1) rfl (by decide) (by decide) rfl (fun ls hl => ?_)
        refine lv_goto (tgt := 9) hx hb dX11_goesFrom_119 (by decide) ?_
        refine lv_iload_n hx hb dX11_goesFrom_9 rfl (lv_at hl 0 rfl) ?_
        refine lv_iconst (v := 3) hx hb dX11_goesFrom_10 (by decide) ?_
        refine lv_icmp_ge (tgt := 122) hx hb dX11_goesFrom_11 (by decide) (fun c => absurd c (by decide)) (fun _ => ?_)
        refine lv_iconst (v := 2) hx hb dX11_goesFrom_14 (by decide) ?_
        refine lv_istore (lv' := [(4, .int 2), (3, .int 2), (0, .ref m0), (1, .int (nI k)), (2, .int 1)]) hx hb dX11_goesFrom_15 hl (by decide) rfl (fun ls hl => ?_)
        exact out _ _ _ (loop12 24 2 P gb gc gd _ rfl (by omega) (by omega) hP0 hPI hPR hPT _ _ (hP.sub [0, 1, 2, 3, 4] rfl) (hD.sub [0, 1, 2, 3, 4] (by decide) rfl) hS ls (lv_sub hl [2, 3, 4, 1, 0] rfl))
      · have c_82 : ¬ 24 < n := fun q9 => c_82 ((nI_ltI (a := 24) (b := n) (by omega) (by omega)).mpr q9)
        rw [show 25 - n = (25 - (n + 1)) + 1 by omega] at hPT
        refine lv_iload_n hx hb dX11_goesFrom_24 rfl (lv_at hl 2 rfl) ?_
        refine lv_iload_n hx hb dX11_goesFrom_25 rfl (lv_at hl 3 rfl) ?_
        refine lv_icmp_eq (tgt := 116) hx hb dX11_goesFrom_26 (by decide) (fun c => absurd c (by decide)) (fun _ => ?_)
        refine lv_iconst (v := 0) hx hb dX11_goesFrom_29 (by decide) ?_
        refine lv_istore (lv' := [(5, .int 0), (0, .ref m0), (1, .int (nI k)), (2, .int 1), (3, .int 0), (4, .int (nI n))]) hx hb dX11_goesFrom_30 hl (by decide) rfl (fun ls hl => ?_)
        refine lv_iload hx hb dX11_goesFrom_32 (lv_at hl 0 rfl) ?_
        refine lv_iconst (v := 3) hx hb dX11_goesFrom_34 (by decide) ?_
        refine lv_icmp_ge (tgt := 62) hx hb dX11_goesFrom_35 (by decide) (fun c => absurd c (by decide)) (fun _ => ?_)
        refine lv_aload_n hx hb dX11_goesFrom_38 rfl (lv_at hl 1 rfl) ?_
        refine va_get (D := (dC, dI)) (ci := 11) (v := .ref m_next) (C := RX11) (T := TX11) (N := 52) hx hb hts hiX11 hown hK hP 0 rfl rfl 49 (by decide) (hts (.fieldLink RX11 97 "ScissorsTableModel" "next" "[I") (by decide +kernel)) (fun _ h9 => h9) rfl dX11_goesFrom_39 ?_
        refine lv_iload hx hb dX11_goesFrom_42 (lv_at hl 0 rfl) ?_
        refine lv_aload_n hx hb dX11_goesFrom_44 rfl (lv_at hl 1 rfl) ?_
        refine va_get (D := (dC, dI)) (ci := 11) (v := .ref m_boxes) (C := RX11) (T := TX11) (N := 52) hx hb hts hiX11 hown hK hP 0 rfl rfl 42 (by decide) (hts (.fieldLink RX11 78 "ScissorsTableModel" "boxes" "[I") (by decide +kernel)) (fun _ h9 => h9) rfl dX11_goesFrom_45 ?_
        refine lv_iconst (v := 3) hx hb dX11_goesFrom_48 (by decide) ?_
        refine lv_iload_n hx hb dX11_goesFrom_49 rfl (lv_at hl 2 rfl) ?_
        refine lv_imul hx hb dX11_goesFrom_50 ?_
        refine lv_topi (fun x_83 ex_83 => ?_)
        obtain rfl : x_83 = nI (3 * k) := ex_83.trans (pk_mul 3 k)
        refine lv_iload hx hb dX11_goesFrom_51 (lv_at hl 0 rfl) ?_
        refine lv_iadd hx hb dX11_goesFrom_53 ?_
        refine lv_topi (fun x_84 ex_84 => ?_)
        obtain rfl : x_84 = nI ((3 * k) + 0) := ex_84.trans (nI_add (3 * k) 0)
        refine va_iald hx hb hK hP 1 1 rfl rfl (vp_in_nI (by omega) (by decide)) dX11_goesFrom_54 ?_
        refine lv_topi (fun x_85 ex_85 => ?_)
        rw [nI_clamp (show (3 * k) + 0 < 2 ^ 31 by omega)] at ex_85
        obtain rfl : x_85 = nI u0 := ex_85.trans ((hPR k _ hP0).1.trans (congrArg nI (bx_x (by omega) (by omega))))
        refine va_iast hx hb hK hP hD hS 4 1 rfl rfl (by show ¬ (_ ∨ _); decide) dX11_goesFrom_55 (fun H locs hP hD hS => ?_)
        rw [show (0 : Int32).toNatClampNeg = 0 from rfl] at hP hD
        have hP : va_P (dC, dI) vwCl [(m0, .inr (11, [.int 0, .ref m_tape, .int 0, .int 0, .int 0, .ref m_read, .int 0, .int 0, .int 0, .ref m_tets, .int 0, .int 0, .int 0, .int 0, .int 0, .int 0, .int 0, .int 0, .ref m_primes, .ref m_often, .ref m_normal, .ref m_termM, .ref m_termP, .ref m_termV, .ref m_sumFrom, .ref m_sumMany, .int 0, .int 0, .int 0, .int 0, .ref m_part, .ref m_fair, .ref m_heap, .ref m_pickTet, .ref m_pickEdge, .ref m_base, .ref m_baseM, .ref m_baseP, .ref m_rowsOf, .int 0, .ref m_grid, .ref m_times, .ref m_boxes, .ref m_cameFrom, .ref m_cameBy, .ref m_steps, .ref m_sides, .int (nI P.length), .int (-1), .ref m_next, .ref m_cube, .ref m_ways])), (m_boxes, .inl (cI, 3600, (.inl gb))), (m_cameFrom, .inl (cI, 1200, (.inl gc))), (m_cameBy, .inl (cI, 1200, (.inl gd))), (m_next, .inl (cI, 3, (.inl (upd gn 0 (nI u0)))))] H := hP
        have hD : va_D A [(m0, .inr (11, [.int 0, .ref m_tape, .int 0, .int 0, .int 0, .ref m_read, .int 0, .int 0, .int 0, .ref m_tets, .int 0, .int 0, .int 0, .int 0, .int 0, .int 0, .int 0, .int 0, .ref m_primes, .ref m_often, .ref m_normal, .ref m_termM, .ref m_termP, .ref m_termV, .ref m_sumFrom, .ref m_sumMany, .int 0, .int 0, .int 0, .int 0, .ref m_part, .ref m_fair, .ref m_heap, .ref m_pickTet, .ref m_pickEdge, .ref m_base, .ref m_baseM, .ref m_baseP, .ref m_rowsOf, .int 0, .ref m_grid, .ref m_times, .ref m_boxes, .ref m_cameFrom, .ref m_cameBy, .ref m_steps, .ref m_sides, .int (nI P.length), .int (-1), .ref m_next, .ref m_cube, .ref m_ways])), (m_boxes, .inl (cI, 3600, (.inl gb))), (m_cameFrom, .inl (cI, 1200, (.inl gc))), (m_cameBy, .inl (cI, 1200, (.inl gd))), (m_next, .inl (cI, 3, (.inl (upd gn 0 (nI u0)))))] := hD
        refine lv_iinc (v := 1) (lv' := [(5, .int 1), (0, .ref m0), (1, .int (nI k)), (2, .int 1), (3, .int 0), (4, .int (nI n))]) hx hb dX11_goesFrom_56 hl (k := 0) rfl (by decide) (by decide) rfl (fun ls hl => ?_)
        refine lv_goto (tgt := 32) hx hb dX11_goesFrom_59 (by decide) ?_
        refine lv_iload hx hb dX11_goesFrom_32 (lv_at hl 0 rfl) ?_
        refine lv_iconst (v := 3) hx hb dX11_goesFrom_34 (by decide) ?_
        refine lv_icmp_ge (tgt := 62) hx hb dX11_goesFrom_35 (by decide) (fun c => absurd c (by decide)) (fun _ => ?_)
        refine lv_aload_n hx hb dX11_goesFrom_38 rfl (lv_at hl 1 rfl) ?_
        refine va_get (D := (dC, dI)) (ci := 11) (v := .ref m_next) (C := RX11) (T := TX11) (N := 52) hx hb hts hiX11 hown hK hP 0 rfl rfl 49 (by decide) (hts (.fieldLink RX11 97 "ScissorsTableModel" "next" "[I") (by decide +kernel)) (fun _ h9 => h9) rfl dX11_goesFrom_39 ?_
        refine lv_iload hx hb dX11_goesFrom_42 (lv_at hl 0 rfl) ?_
        refine lv_aload_n hx hb dX11_goesFrom_44 rfl (lv_at hl 1 rfl) ?_
        refine va_get (D := (dC, dI)) (ci := 11) (v := .ref m_boxes) (C := RX11) (T := TX11) (N := 52) hx hb hts hiX11 hown hK hP 0 rfl rfl 42 (by decide) (hts (.fieldLink RX11 78 "ScissorsTableModel" "boxes" "[I") (by decide +kernel)) (fun _ h9 => h9) rfl dX11_goesFrom_45 ?_
        refine lv_iconst (v := 3) hx hb dX11_goesFrom_48 (by decide) ?_
        refine lv_iload_n hx hb dX11_goesFrom_49 rfl (lv_at hl 2 rfl) ?_
        refine lv_imul hx hb dX11_goesFrom_50 ?_
        refine lv_topi (fun x_86 ex_86 => ?_)
        obtain rfl : x_86 = nI (3 * k) := ex_86.trans (pk_mul 3 k)
        refine lv_iload hx hb dX11_goesFrom_51 (lv_at hl 0 rfl) ?_
        refine lv_iadd hx hb dX11_goesFrom_53 ?_
        refine lv_topi (fun x_87 ex_87 => ?_)
        obtain rfl : x_87 = nI ((3 * k) + 1) := ex_87.trans (nI_add (3 * k) 1)
        refine va_iald hx hb hK hP 1 1 rfl rfl (vp_in_nI (by omega) (by decide)) dX11_goesFrom_54 ?_
        refine lv_topi (fun x_88 ex_88 => ?_)
        rw [nI_clamp (show (3 * k) + 1 < 2 ^ 31 by omega)] at ex_88
        obtain rfl : x_88 = nI u1 := ex_88.trans ((hPR k _ hP0).2.1.trans (congrArg nI (bx_y (by omega) (by omega))))
        refine va_iast hx hb hK hP hD hS 4 1 rfl rfl (by show ¬ (_ ∨ _); decide) dX11_goesFrom_55 (fun H locs hP hD hS => ?_)
        rw [show (1 : Int32).toNatClampNeg = 1 from rfl] at hP hD
        have hP : va_P (dC, dI) vwCl [(m0, .inr (11, [.int 0, .ref m_tape, .int 0, .int 0, .int 0, .ref m_read, .int 0, .int 0, .int 0, .ref m_tets, .int 0, .int 0, .int 0, .int 0, .int 0, .int 0, .int 0, .int 0, .ref m_primes, .ref m_often, .ref m_normal, .ref m_termM, .ref m_termP, .ref m_termV, .ref m_sumFrom, .ref m_sumMany, .int 0, .int 0, .int 0, .int 0, .ref m_part, .ref m_fair, .ref m_heap, .ref m_pickTet, .ref m_pickEdge, .ref m_base, .ref m_baseM, .ref m_baseP, .ref m_rowsOf, .int 0, .ref m_grid, .ref m_times, .ref m_boxes, .ref m_cameFrom, .ref m_cameBy, .ref m_steps, .ref m_sides, .int (nI P.length), .int (-1), .ref m_next, .ref m_cube, .ref m_ways])), (m_boxes, .inl (cI, 3600, (.inl gb))), (m_cameFrom, .inl (cI, 1200, (.inl gc))), (m_cameBy, .inl (cI, 1200, (.inl gd))), (m_next, .inl (cI, 3, (.inl (upd (upd gn 0 (nI u0)) 1 (nI u1)))))] H := hP
        have hD : va_D A [(m0, .inr (11, [.int 0, .ref m_tape, .int 0, .int 0, .int 0, .ref m_read, .int 0, .int 0, .int 0, .ref m_tets, .int 0, .int 0, .int 0, .int 0, .int 0, .int 0, .int 0, .int 0, .ref m_primes, .ref m_often, .ref m_normal, .ref m_termM, .ref m_termP, .ref m_termV, .ref m_sumFrom, .ref m_sumMany, .int 0, .int 0, .int 0, .int 0, .ref m_part, .ref m_fair, .ref m_heap, .ref m_pickTet, .ref m_pickEdge, .ref m_base, .ref m_baseM, .ref m_baseP, .ref m_rowsOf, .int 0, .ref m_grid, .ref m_times, .ref m_boxes, .ref m_cameFrom, .ref m_cameBy, .ref m_steps, .ref m_sides, .int (nI P.length), .int (-1), .ref m_next, .ref m_cube, .ref m_ways])), (m_boxes, .inl (cI, 3600, (.inl gb))), (m_cameFrom, .inl (cI, 1200, (.inl gc))), (m_cameBy, .inl (cI, 1200, (.inl gd))), (m_next, .inl (cI, 3, (.inl (upd (upd gn 0 (nI u0)) 1 (nI u1)))))] := hD
        refine lv_iinc (v := 2) (lv' := [(5, .int 2), (0, .ref m0), (1, .int (nI k)), (2, .int 1), (3, .int 0), (4, .int (nI n))]) hx hb dX11_goesFrom_56 hl (k := 0) rfl (by decide) (by decide) rfl (fun ls hl => ?_)
        refine lv_goto (tgt := 32) hx hb dX11_goesFrom_59 (by decide) ?_
        refine lv_iload hx hb dX11_goesFrom_32 (lv_at hl 0 rfl) ?_
        refine lv_iconst (v := 3) hx hb dX11_goesFrom_34 (by decide) ?_
        refine lv_icmp_ge (tgt := 62) hx hb dX11_goesFrom_35 (by decide) (fun c => absurd c (by decide)) (fun _ => ?_)
        refine lv_aload_n hx hb dX11_goesFrom_38 rfl (lv_at hl 1 rfl) ?_
        refine va_get (D := (dC, dI)) (ci := 11) (v := .ref m_next) (C := RX11) (T := TX11) (N := 52) hx hb hts hiX11 hown hK hP 0 rfl rfl 49 (by decide) (hts (.fieldLink RX11 97 "ScissorsTableModel" "next" "[I") (by decide +kernel)) (fun _ h9 => h9) rfl dX11_goesFrom_39 ?_
        refine lv_iload hx hb dX11_goesFrom_42 (lv_at hl 0 rfl) ?_
        refine lv_aload_n hx hb dX11_goesFrom_44 rfl (lv_at hl 1 rfl) ?_
        refine va_get (D := (dC, dI)) (ci := 11) (v := .ref m_boxes) (C := RX11) (T := TX11) (N := 52) hx hb hts hiX11 hown hK hP 0 rfl rfl 42 (by decide) (hts (.fieldLink RX11 78 "ScissorsTableModel" "boxes" "[I") (by decide +kernel)) (fun _ h9 => h9) rfl dX11_goesFrom_45 ?_
        refine lv_iconst (v := 3) hx hb dX11_goesFrom_48 (by decide) ?_
        refine lv_iload_n hx hb dX11_goesFrom_49 rfl (lv_at hl 2 rfl) ?_
        refine lv_imul hx hb dX11_goesFrom_50 ?_
        refine lv_topi (fun x_89 ex_89 => ?_)
        obtain rfl : x_89 = nI (3 * k) := ex_89.trans (pk_mul 3 k)
        refine lv_iload hx hb dX11_goesFrom_51 (lv_at hl 0 rfl) ?_
        refine lv_iadd hx hb dX11_goesFrom_53 ?_
        refine lv_topi (fun x_90 ex_90 => ?_)
        obtain rfl : x_90 = nI ((3 * k) + 2) := ex_90.trans (nI_add (3 * k) 2)
        refine va_iald hx hb hK hP 1 1 rfl rfl (vp_in_nI (by omega) (by decide)) dX11_goesFrom_54 ?_
        refine lv_topi (fun x_91 ex_91 => ?_)
        rw [nI_clamp (show (3 * k) + 2 < 2 ^ 31 by omega)] at ex_91
        obtain rfl : x_91 = nI u2 := ex_91.trans ((hPR k _ hP0).2.2.1.trans (congrArg nI (bx_z (by omega))))
        refine va_iast hx hb hK hP hD hS 4 1 rfl rfl (by show ¬ (_ ∨ _); decide) dX11_goesFrom_55 (fun H locs hP hD hS => ?_)
        rw [show (2 : Int32).toNatClampNeg = 2 from rfl] at hP hD
        have hP : va_P (dC, dI) vwCl [(m0, .inr (11, [.int 0, .ref m_tape, .int 0, .int 0, .int 0, .ref m_read, .int 0, .int 0, .int 0, .ref m_tets, .int 0, .int 0, .int 0, .int 0, .int 0, .int 0, .int 0, .int 0, .ref m_primes, .ref m_often, .ref m_normal, .ref m_termM, .ref m_termP, .ref m_termV, .ref m_sumFrom, .ref m_sumMany, .int 0, .int 0, .int 0, .int 0, .ref m_part, .ref m_fair, .ref m_heap, .ref m_pickTet, .ref m_pickEdge, .ref m_base, .ref m_baseM, .ref m_baseP, .ref m_rowsOf, .int 0, .ref m_grid, .ref m_times, .ref m_boxes, .ref m_cameFrom, .ref m_cameBy, .ref m_steps, .ref m_sides, .int (nI P.length), .int (-1), .ref m_next, .ref m_cube, .ref m_ways])), (m_boxes, .inl (cI, 3600, (.inl gb))), (m_cameFrom, .inl (cI, 1200, (.inl gc))), (m_cameBy, .inl (cI, 1200, (.inl gd))), (m_next, .inl (cI, 3, (.inl (upd (upd (upd gn 0 (nI u0)) 1 (nI u1)) 2 (nI u2)))))] H := hP
        have hD : va_D A [(m0, .inr (11, [.int 0, .ref m_tape, .int 0, .int 0, .int 0, .ref m_read, .int 0, .int 0, .int 0, .ref m_tets, .int 0, .int 0, .int 0, .int 0, .int 0, .int 0, .int 0, .int 0, .ref m_primes, .ref m_often, .ref m_normal, .ref m_termM, .ref m_termP, .ref m_termV, .ref m_sumFrom, .ref m_sumMany, .int 0, .int 0, .int 0, .int 0, .ref m_part, .ref m_fair, .ref m_heap, .ref m_pickTet, .ref m_pickEdge, .ref m_base, .ref m_baseM, .ref m_baseP, .ref m_rowsOf, .int 0, .ref m_grid, .ref m_times, .ref m_boxes, .ref m_cameFrom, .ref m_cameBy, .ref m_steps, .ref m_sides, .int (nI P.length), .int (-1), .ref m_next, .ref m_cube, .ref m_ways])), (m_boxes, .inl (cI, 3600, (.inl gb))), (m_cameFrom, .inl (cI, 1200, (.inl gc))), (m_cameBy, .inl (cI, 1200, (.inl gd))), (m_next, .inl (cI, 3, (.inl (upd (upd (upd gn 0 (nI u0)) 1 (nI u1)) 2 (nI u2)))))] := hD
        refine lv_iinc (v := 3) (lv' := [(5, .int 3), (0, .ref m0), (1, .int (nI k)), (2, .int 1), (3, .int 0), (4, .int (nI n))]) hx hb dX11_goesFrom_56 hl (k := 0) rfl (by decide) (by decide) rfl (fun ls hl => ?_)
        refine lv_goto (tgt := 32) hx hb dX11_goesFrom_59 (by decide) ?_
        refine lv_iload hx hb dX11_goesFrom_32 (lv_at hl 0 rfl) ?_
        refine lv_iconst (v := 3) hx hb dX11_goesFrom_34 (by decide) ?_
        refine lv_icmp_ge (tgt := 62) hx hb dX11_goesFrom_35 (by decide) (fun _ => ?_) (fun c => absurd (by decide) c)
        refine lv_aload_n hx hb dX11_goesFrom_62 rfl (lv_at hl 1 rfl) ?_
        refine lv_iload_n hx hb dX11_goesFrom_63 rfl (lv_at hl 3 rfl) ?_
        refine lv_iload_n hx hb dX11_goesFrom_64 rfl (lv_at hl 4 rfl) ?_
        refine lv_iload hx hb dX11_goesFrom_65 (lv_at hl 5 rfl) ?_
        have hPc := hP.sub (ws' := [(m0, .inr (11, [.int 0, .ref m_tape, .int 0, .int 0, .int 0, .ref m_read, .int 0, .int 0, .int 0, .ref m_tets, .int 0, .int 0, .int 0, .int 0, .int 0, .int 0, .int 0, .int 0, .ref m_primes, .ref m_often, .ref m_normal, .ref m_termM, .ref m_termP, .ref m_termV, .ref m_sumFrom, .ref m_sumMany, .int 0, .int 0, .int 0, .int 0, .ref m_part, .ref m_fair, .ref m_heap, .ref m_pickTet, .ref m_pickEdge, .ref m_base, .ref m_baseM, .ref m_baseP, .ref m_rowsOf, .int 0, .ref m_grid, .ref m_times, .ref m_boxes, .ref m_cameFrom, .ref m_cameBy, .ref m_steps, .ref m_sides, .int (nI P.length), .int (-1), .ref m_next, .ref m_cube, .ref m_ways])), (m_next, .inl (cI, 3, (.inl (upd (upd (upd gn 0 (nI u0)) 1 (nI u1)) 2 (nI u2)))))]) [0, 4] rfl
        have hDc := hD.sub (ws' := [(m0, .inr (11, [.int 0, .ref m_tape, .int 0, .int 0, .int 0, .ref m_read, .int 0, .int 0, .int 0, .ref m_tets, .int 0, .int 0, .int 0, .int 0, .int 0, .int 0, .int 0, .int 0, .ref m_primes, .ref m_often, .ref m_normal, .ref m_termM, .ref m_termP, .ref m_termV, .ref m_sumFrom, .ref m_sumMany, .int 0, .int 0, .int 0, .int 0, .ref m_part, .ref m_fair, .ref m_heap, .ref m_pickTet, .ref m_pickEdge, .ref m_base, .ref m_baseM, .ref m_baseP, .ref m_rowsOf, .int 0, .ref m_grid, .ref m_times, .ref m_boxes, .ref m_cameFrom, .ref m_cameBy, .ref m_steps, .ref m_sides, .int (nI P.length), .int (-1), .ref m_next, .ref m_cube, .ref m_ways])), (m_next, .inl (cI, 3, (.inl (upd (upd (upd gn 0 (nI u0)) 1 (nI u1)) 2 (nI u2)))))]) [0, 4] (by decide) rfl
        have hFc := va_free (wc := [(m0, .inr (11, [.int 0, .ref m_tape, .int 0, .int 0, .int 0, .ref m_read, .int 0, .int 0, .int 0, .ref m_tets, .int 0, .int 0, .int 0, .int 0, .int 0, .int 0, .int 0, .int 0, .ref m_primes, .ref m_often, .ref m_normal, .ref m_termM, .ref m_termP, .ref m_termV, .ref m_sumFrom, .ref m_sumMany, .int 0, .int 0, .int 0, .int 0, .ref m_part, .ref m_fair, .ref m_heap, .ref m_pickTet, .ref m_pickEdge, .ref m_base, .ref m_baseM, .ref m_baseP, .ref m_rowsOf, .int 0, .ref m_grid, .ref m_times, .ref m_boxes, .ref m_cameFrom, .ref m_cameBy, .ref m_steps, .ref m_sides, .int (nI P.length), .int (-1), .ref m_next, .ref m_cube, .ref m_ways])), (m_next, .inl (cI, 3, (.inl (upd (upd (upd gn 0 (nI u0)) 1 (nI u1)) 2 (nI u2)))))]) hD hS hA [0, 4] rfl
        refine va_calli (va_runV (As := [.int 1, .int 0, .int (nI n)]) (rest := []) ⟨hx, hb, hml, hown, hts⟩ (c_X11_goes__10 l dC dI cB cI cJ H.size m0 m_tape m_read m_tets m_primes m_often m_normal m_termM m_termP m_termV m_sumFrom m_sumMany m_part m_fair m_heap m_pickTet m_pickEdge m_base m_baseM m_baseP m_rowsOf m_grid m_times m_boxes m_cameFrom m_cameBy m_steps m_sides m_next m_cube m_ways (nI P.length) (upd (upd (upd gn 0 (nI u0)) 1 (nI u1)) 2 (nI u2)) u0 u1 u2 n hu (by omega) (⟨rfl, rfl, rfl⟩)) (cwV 3 hts gX11_goesFrom_X11_goes_ rfl rfl rfl (by decide +kernel) ⟨Nat.le_of_ble_eq_true rfl, Nat.le_of_ble_eq_true rfl⟩) ⟨fun a U g mk q => by obtain ⟨q0, q1, qP, qK, qD⟩ := q; exact ⟨q0, q1, qP, va_K.moved (u := U) (U := U.calling g mk a) (Vm.Alike.refl U.vm) qK, qD⟩, va_recv hK hP (ci := 11) (q0 := 0) rfl rfl, fun U hU hW => ⟨rfl, by rw [hU], by rw [hU]; exact hPc, va_K.moved hW.alike hK, hDc.weaken (fun _ _ _ _ => trivial)⟩⟩ rfl rfl hl.1 rfl (lv_room (Nat.le_of_ble_eq_true rfl)) dX11_goesFrom_67 ⟨Nat.le_of_ble_eq_true rfl, Nat.le_of_ble_eq_true rfl⟩) hS (fun q _ h => hFc q h) hFc (fun r_92 u t H1 locs ht hvm hw hB hz1 hk1 hS => ?_)
        obtain ⟨g_93, h_94, hP1, hK1, hD1⟩ := hB
        rw [ht] at hP1
        obtain ⟨hP, hD⟩ := va_join (wr := [(m_boxes, .inl (cI, 3600, (.inl gb))), (m_cameFrom, .inl (cI, 1200, (.inl gc))), (m_cameBy, .inl (cI, 1200, (.inl gd)))]) (w1 := [(m0, .inr (11, [.int 0, .ref m_tape, .int 0, .int 0, .int 0, .ref m_read, .int 0, .int 0, .int 0, .ref m_tets, .int 0, .int 0, .int 0, .int 0, .int 0, .int 0, .int 0, .int 0, .ref m_primes, .ref m_often, .ref m_normal, .ref m_termM, .ref m_termP, .ref m_termV, .ref m_sumFrom, .ref m_sumMany, .int 0, .int 0, .int 0, .int 0, .ref m_part, .ref m_fair, .ref m_heap, .ref m_pickTet, .ref m_pickEdge, .ref m_base, .ref m_baseM, .ref m_baseP, .ref m_rowsOf, .int 0, .ref m_grid, .ref m_times, .ref m_boxes, .ref m_cameFrom, .ref m_cameBy, .ref m_steps, .ref m_sides, .int (nI P.length), .int (-1), .ref m_next, .ref m_cube, .ref m_ways])), (m_next, .inl (cI, 3, (.inl g_93)))]) hP hD [0, 4] [1, 2, 3] rfl rfl (by decide) (by decide) hk1 hFc hP1 hD1
        generalize H1 = H at hP hS ⊢
        have hP : va_P (dC, dI) vwCl [(m_boxes, .inl (cI, 3600, (.inl gb))), (m_cameFrom, .inl (cI, 1200, (.inl gc))), (m_cameBy, .inl (cI, 1200, (.inl gd))), (m0, .inr (11, [.int 0, .ref m_tape, .int 0, .int 0, .int 0, .ref m_read, .int 0, .int 0, .int 0, .ref m_tets, .int 0, .int 0, .int 0, .int 0, .int 0, .int 0, .int 0, .int 0, .ref m_primes, .ref m_often, .ref m_normal, .ref m_termM, .ref m_termP, .ref m_termV, .ref m_sumFrom, .ref m_sumMany, .int 0, .int 0, .int 0, .int 0, .ref m_part, .ref m_fair, .ref m_heap, .ref m_pickTet, .ref m_pickEdge, .ref m_base, .ref m_baseM, .ref m_baseP, .ref m_rowsOf, .int 0, .ref m_grid, .ref m_times, .ref m_boxes, .ref m_cameFrom, .ref m_cameBy, .ref m_steps, .ref m_sides, .int (nI P.length), .int (-1), .ref m_next, .ref m_cube, .ref m_ways])), (m_next, .inl (cI, 3, (.inl g_93)))] H := hP
        have hD : va_D A [(m_boxes, .inl (cI, 3600, (.inl gb))), (m_cameFrom, .inl (cI, 1200, (.inl gc))), (m_cameBy, .inl (cI, 1200, (.inl gd))), (m0, .inr (11, [.int 0, .ref m_tape, .int 0, .int 0, .int 0, .ref m_read, .int 0, .int 0, .int 0, .ref m_tets, .int 0, .int 0, .int 0, .int 0, .int 0, .int 0, .int 0, .int 0, .ref m_primes, .ref m_often, .ref m_normal, .ref m_termM, .ref m_termP, .ref m_termV, .ref m_sumFrom, .ref m_sumMany, .int 0, .int 0, .int 0, .int 0, .ref m_part, .ref m_fair, .ref m_heap, .ref m_pickTet, .ref m_pickEdge, .ref m_base, .ref m_baseM, .ref m_baseP, .ref m_rowsOf, .int 0, .ref m_grid, .ref m_times, .ref m_boxes, .ref m_cameFrom, .ref m_cameBy, .ref m_steps, .ref m_sides, .int (nI P.length), .int (-1), .ref m_next, .ref m_cube, .ref m_ways])), (m_next, .inl (cI, 3, (.inl g_93)))] := hD
        have hr_92 := hw
        rcases hr_92 with ⟨rfl, hok⟩ | ⟨rfl, hok⟩
        · have hPT : q_sees k (d + 1) (nb_n u0 u1 u2 1 0 (25 - (n + 1)) (n + 1) ++ (nb_n u0 u1 u2 1 2 23 2 ++ (nb_n u0 u1 u2 2 0 23 2 ++ (nb_n u0 u1 u2 2 1 23 2 ++ [])))) P = T := (congrArg (fun L9 => q_sees k (d + 1) (L9 ++ (nb_n u0 u1 u2 1 2 23 2 ++ (nb_n u0 u1 u2 2 0 23 2 ++ (nb_n u0 u1 u2 2 1 23 2 ++ [])))) P) (nb_no (x := u0) (y := u1) (z := u2) (i := 1) (j := 0) (f := 25 - (n + 1)) (n := n) hok)).symm.trans hPT
          refine lv_if_eq (tgt := 110) hx hb dX11_goesFrom_70 (by decide) (fun _ => ?_) (fun c => absurd (by decide) c)
          obtain ⟨x_95, ex_95⟩ : ∃ y : Int32, y = (nI n) + 1 := ⟨_, rfl⟩
          refine lv_iinc (v := x_95) (lv' := [(4, .int x_95), (5, .int 3), (0, .ref m0), (1, .int (nI k)), (2, .int 1), (3, .int 0)]) hx hb dX11_goesFrom_110 hl (k := 5) rfl (by rw [ex_95]; rfl) (by decide) rfl (fun ls hl => ?_)
          obtain rfl : x_95 = nI (n + 1) := ex_95.trans (nI_1 n)
          have hl : lv_has ls 6 [(4, .int (nI (n + 1))), (5, .int 3), (0, .ref m0), (1, .int (nI k)), (2, .int 1), (3, .int 0)] := hl
          refine lv_goto (tgt := 17) hx hb dX11_goesFrom_113 (by decide) ?_
          exact out _ _ _ (ih10 (n + 1) P gb gc gd _ (by omega) (by omega) (by omega) hP0 hPI hPR hPT _ _ (hP.sub [3, 0, 1, 2, 4] rfl) (hD.sub [3, 0, 1, 2, 4] (by decide) rfl) hS ls (lv_sub hl [2, 3, 4, 5, 0] rfl))
        · have hPT : q_sees k (d + 1) ((st_go u0 u1 u2 1 0 n :: nb_n u0 u1 u2 1 0 (25 - (n + 1)) (n + 1)) ++ (nb_n u0 u1 u2 1 2 23 2 ++ (nb_n u0 u1 u2 2 0 23 2 ++ (nb_n u0 u1 u2 2 1 23 2 ++ [])))) P = T := (congrArg (fun L9 => q_sees k (d + 1) (L9 ++ (nb_n u0 u1 u2 1 2 23 2 ++ (nb_n u0 u1 u2 2 0 23 2 ++ (nb_n u0 u1 u2 2 1 23 2 ++ [])))) P) (nb_yes (x := u0) (y := u1) (z := u2) (i := 1) (j := 0) (f := 25 - (n + 1)) (n := n) hok)).symm.trans hPT
          have hgz := h_94 hok
          have o1 : u1 % n = 0 := hok.1
          have o2 : u0 % (n - 1) = 0 := hok.2.1
          have o3 : u0 / (n - 1) * n ≤ 24 := hok.2.2
          have l1 := st_lo h6 (show 1 ≤ u1 by omega) (show u1 ≤ 24 by omega) o1
          have l2 := st_hi h6 (show 1 ≤ u0 by omega) o2
          have hgo : bx_in V (st_go u0 u1 u2 1 0 n) := st_go_in hu.1 hu.2.1 hu.2.2 hV (by decide) (by decide) (by decide) h6 (st_ok_iff.mpr hok)
          refine lv_if_eq (tgt := 110) hx hb dX11_goesFrom_70 (by decide) (fun c => absurd c (by decide)) (fun _ => ?_)
          refine lv_aload_n hx hb dX11_goesFrom_73 rfl (lv_at hl 1 rfl) ?_
          refine lv_aload_n hx hb dX11_goesFrom_74 rfl (lv_at hl 1 rfl) ?_
          refine va_get (D := (dC, dI)) (ci := 11) (v := .ref m_next) (C := RX11) (T := TX11) (N := 52) hx hb hts hiX11 hown hK hP 3 rfl rfl 49 (by decide) (hts (.fieldLink RX11 97 "ScissorsTableModel" "next" "[I") (by decide +kernel)) (fun _ h9 => h9) rfl dX11_goesFrom_75 ?_
          refine lv_iconst (v := 0) hx hb dX11_goesFrom_78 (by decide) ?_
          refine va_iald hx hb hK hP 4 1 rfl rfl (by show ¬ (_ ∨ _); decide) dX11_goesFrom_79 ?_
          refine lv_topi (fun x_96 ex_96 => ?_)
          have ex_96 : x_96 = g_93 0 := ex_96
          obtain rfl : x_96 = nI (u0 / (n - 1) * n) := ex_96.trans hgz.1
          refine lv_aload_n hx hb dX11_goesFrom_80 rfl (lv_at hl 1 rfl) ?_
          refine va_get (D := (dC, dI)) (ci := 11) (v := .ref m_next) (C := RX11) (T := TX11) (N := 52) hx hb hts hiX11 hown hK hP 3 rfl rfl 49 (by decide) (hts (.fieldLink RX11 97 "ScissorsTableModel" "next" "[I") (by decide +kernel)) (fun _ h9 => h9) rfl dX11_goesFrom_81 ?_
          refine lv_iconst (v := 1) hx hb dX11_goesFrom_84 (by decide) ?_
          refine va_iald hx hb hK hP 4 1 rfl rfl (by show ¬ (_ ∨ _); decide) dX11_goesFrom_85 ?_
          refine lv_topi (fun x_97 ex_97 => ?_)
          have ex_97 : x_97 = g_93 1 := ex_97
          obtain rfl : x_97 = nI (u1 / n * (n - 1)) := ex_97.trans hgz.2.1
          refine lv_aload_n hx hb dX11_goesFrom_86 rfl (lv_at hl 1 rfl) ?_
          refine va_get (D := (dC, dI)) (ci := 11) (v := .ref m_next) (C := RX11) (T := TX11) (N := 52) hx hb hts hiX11 hown hK hP 3 rfl rfl 49 (by decide) (hts (.fieldLink RX11 97 "ScissorsTableModel" "next" "[I") (by decide +kernel)) (fun _ h9 => h9) rfl dX11_goesFrom_87 ?_
          refine lv_iconst (v := 2) hx hb dX11_goesFrom_90 (by decide) ?_
          refine va_iald hx hb hK hP 4 1 rfl rfl (by show ¬ (_ ∨ _); decide) dX11_goesFrom_91 ?_
          refine lv_topi (fun x_98 ex_98 => ?_)
          have ex_98 : x_98 = g_93 2 := ex_98
          obtain rfl : x_98 = nI (u2) := ex_98.trans hgz.2.2
          refine lv_iload_n hx hb dX11_goesFrom_92 rfl (lv_at hl 2 rfl) ?_
          refine lv_bipush (v := 72) hx hb dX11_goesFrom_93 (by decide) ?_
          refine lv_iload_n hx hb dX11_goesFrom_95 rfl (lv_at hl 3 rfl) ?_
          refine lv_imul hx hb dX11_goesFrom_96 ?_
          refine lv_topi (fun x_99 ex_99 => ?_)
          obtain rfl : x_99 = 72 := ex_99.trans (by first | rfl | decide)
          refine lv_bipush (v := 24) hx hb dX11_goesFrom_97 (by decide) ?_
          refine lv_iload_n hx hb dX11_goesFrom_99 rfl (lv_at hl 4 rfl) ?_
          refine lv_imul hx hb dX11_goesFrom_100 ?_
          refine lv_topi (fun x_100 ex_100 => ?_)
          obtain rfl : x_100 = 0 := ex_100.trans (by first | rfl | decide)
          refine lv_iadd hx hb dX11_goesFrom_101 ?_
          refine lv_topi (fun x_101 ex_101 => ?_)
          obtain rfl : x_101 = 72 := ex_101.trans (by first | rfl | decide)
          refine lv_iload hx hb dX11_goesFrom_102 (lv_at hl 5 rfl) ?_
          refine lv_iadd hx hb dX11_goesFrom_104 ?_
          refine lv_topi (fun x_102 ex_102 => ?_)
          obtain rfl : x_102 = nI (72 + n) := ex_102.trans (nI_add 72 n)
          refine lv_iconst (v := 1) hx hb dX11_goesFrom_105 (by decide) ?_
          refine lv_isub hx hb dX11_goesFrom_106 ?_
          refine lv_topi (fun x_103 ex_103 => ?_)
          obtain rfl : x_103 = nI ((72 + n) - 1) := ex_103.trans (pk_sub (a := 72 + n) (b := 1) (by omega))
          have hvv : (u0 / (n - 1) * n) * (u1 / n * (n - 1)) * u2 = V := by
            obtain ⟨s0, s1, s2, g0, g1, g2, g3, g4⟩ := hgo
            have g4 : bx_mk (u0 / (n - 1) * n) (u1 / n * (n - 1)) u2 = bx_mk s0 s1 s2 := g4
            have g5 := bx_mk_inj g4 (by omega)
            rw [g5.1, g5.2.1, g5.2.2]
            exact g3
          have hPc := hP.sub (ws' := [(m0, .inr (11, [.int 0, .ref m_tape, .int 0, .int 0, .int 0, .ref m_read, .int 0, .int 0, .int 0, .ref m_tets, .int 0, .int 0, .int 0, .int 0, .int 0, .int 0, .int 0, .int 0, .ref m_primes, .ref m_often, .ref m_normal, .ref m_termM, .ref m_termP, .ref m_termV, .ref m_sumFrom, .ref m_sumMany, .int 0, .int 0, .int 0, .int 0, .ref m_part, .ref m_fair, .ref m_heap, .ref m_pickTet, .ref m_pickEdge, .ref m_base, .ref m_baseM, .ref m_baseP, .ref m_rowsOf, .int 0, .ref m_grid, .ref m_times, .ref m_boxes, .ref m_cameFrom, .ref m_cameBy, .ref m_steps, .ref m_sides, .int (nI P.length), .int (-1), .ref m_next, .ref m_cube, .ref m_ways])), (m_boxes, .inl (cI, 3600, (.inl gb))), (m_cameFrom, .inl (cI, 1200, (.inl gc))), (m_cameBy, .inl (cI, 1200, (.inl gd)))]) [3, 0, 1, 2] rfl
          have hDc := hD.sub (ws' := [(m0, .inr (11, [.int 0, .ref m_tape, .int 0, .int 0, .int 0, .ref m_read, .int 0, .int 0, .int 0, .ref m_tets, .int 0, .int 0, .int 0, .int 0, .int 0, .int 0, .int 0, .int 0, .ref m_primes, .ref m_often, .ref m_normal, .ref m_termM, .ref m_termP, .ref m_termV, .ref m_sumFrom, .ref m_sumMany, .int 0, .int 0, .int 0, .int 0, .ref m_part, .ref m_fair, .ref m_heap, .ref m_pickTet, .ref m_pickEdge, .ref m_base, .ref m_baseM, .ref m_baseP, .ref m_rowsOf, .int 0, .ref m_grid, .ref m_times, .ref m_boxes, .ref m_cameFrom, .ref m_cameBy, .ref m_steps, .ref m_sides, .int (nI P.length), .int (-1), .ref m_next, .ref m_cube, .ref m_ways])), (m_boxes, .inl (cI, 3600, (.inl gb))), (m_cameFrom, .inl (cI, 1200, (.inl gc))), (m_cameBy, .inl (cI, 1200, (.inl gd)))]) [3, 0, 1, 2] (by decide) rfl
          have hFc := va_free (wc := [(m0, .inr (11, [.int 0, .ref m_tape, .int 0, .int 0, .int 0, .ref m_read, .int 0, .int 0, .int 0, .ref m_tets, .int 0, .int 0, .int 0, .int 0, .int 0, .int 0, .int 0, .int 0, .ref m_primes, .ref m_often, .ref m_normal, .ref m_termM, .ref m_termP, .ref m_termV, .ref m_sumFrom, .ref m_sumMany, .int 0, .int 0, .int 0, .int 0, .ref m_part, .ref m_fair, .ref m_heap, .ref m_pickTet, .ref m_pickEdge, .ref m_base, .ref m_baseM, .ref m_baseP, .ref m_rowsOf, .int 0, .ref m_grid, .ref m_times, .ref m_boxes, .ref m_cameFrom, .ref m_cameBy, .ref m_steps, .ref m_sides, .int (nI P.length), .int (-1), .ref m_next, .ref m_cube, .ref m_ways])), (m_boxes, .inl (cI, 3600, (.inl gb))), (m_cameFrom, .inl (cI, 1200, (.inl gc))), (m_cameBy, .inl (cI, 1200, (.inl gd)))]) hD hS hA [3, 0, 1, 2] rfl
          refine va_callv (va_runV (As := [.int (nI (u0 / (n - 1) * n)), .int (nI (u1 / n * (n - 1))), .int (nI (u2)), .int (nI k), .int (nI ((72 + n) - 1))]) (rest := []) ⟨hx, hb, hml, hown, hts⟩ (c_X11_meetsBox l dC dI cB cI cJ H.size m0 m_tape m_read m_tets m_primes m_often m_normal m_termM m_termP m_termV m_sumFrom m_sumMany m_part m_fair m_heap m_pickTet m_pickEdge m_base m_baseM m_baseP m_rowsOf m_grid m_times m_boxes m_cameFrom m_cameBy m_steps m_sides m_next m_cube m_ways P gb gc gd V (u0 / (n - 1) * n) (u1 / n * (n - 1)) u2 k (d + 1) (nI k) (nI ((72 + n) - 1)) (by omega) hvv hPI hPR (by omega) ((if_neg (by omega)).symm)) (cwV 5 hts gX11_goesFrom_X11_meetsBox rfl rfl rfl (by decide +kernel) ⟨Nat.le_of_ble_eq_true rfl, Nat.le_of_ble_eq_true rfl⟩) ⟨fun a U g mk q => by obtain ⟨q0, q1, qP, qK, qD⟩ := q; exact ⟨q0, q1, qP, va_K.moved (u := U) (U := U.calling g mk a) (Vm.Alike.refl U.vm) qK, qD⟩, va_recv hK hP (ci := 11) (q0 := 3) rfl rfl, fun U hU hW => ⟨rfl, by rw [hU], by rw [hU]; exact hPc, va_K.moved hW.alike hK, hDc.weaken (fun _ _ _ _ => trivial)⟩⟩ rfl rfl hl.1 rfl (lv_room (Nat.le_of_ble_eq_true rfl)) dX11_goesFrom_107 ⟨Nat.le_of_ble_eq_true rfl, Nat.le_of_ble_eq_true rfl⟩) hS (fun q _ h => hFc q h) hFc (fun u t H1 locs ht hvm hw hB hz1 hk1 hS => ?_)
          obtain ⟨g_104, g_105, g_106, h_107, hP1, hK1, hD1⟩ := hB
          rw [ht] at hP1
          obtain ⟨hP, hD⟩ := va_join (wr := [(m_next, .inl (cI, 3, (.inl g_93)))]) (w1 := [(m0, .inr (11, [.int 0, .ref m_tape, .int 0, .int 0, .int 0, .ref m_read, .int 0, .int 0, .int 0, .ref m_tets, .int 0, .int 0, .int 0, .int 0, .int 0, .int 0, .int 0, .int 0, .ref m_primes, .ref m_often, .ref m_normal, .ref m_termM, .ref m_termP, .ref m_termV, .ref m_sumFrom, .ref m_sumMany, .int 0, .int 0, .int 0, .int 0, .ref m_part, .ref m_fair, .ref m_heap, .ref m_pickTet, .ref m_pickEdge, .ref m_base, .ref m_baseM, .ref m_baseP, .ref m_rowsOf, .int 0, .ref m_grid, .ref m_times, .ref m_boxes, .ref m_cameFrom, .ref m_cameBy, .ref m_steps, .ref m_sides, .int (nI (q_see P k (d + 1) (bx_mk (u0 / (n - 1) * n) (u1 / n * (n - 1)) u2)).length), .int (-1), .ref m_next, .ref m_cube, .ref m_ways])), (m_boxes, .inl (cI, 3600, (.inl g_104))), (m_cameFrom, .inl (cI, 1200, (.inl g_105))), (m_cameBy, .inl (cI, 1200, (.inl g_106)))]) hP hD [3, 0, 1, 2] [4] rfl rfl (by decide) (by decide) hk1 hFc hP1 hD1
          generalize H1 = H at hP hS ⊢
          have hP : va_P (dC, dI) vwCl [(m_next, .inl (cI, 3, (.inl g_93))), (m0, .inr (11, [.int 0, .ref m_tape, .int 0, .int 0, .int 0, .ref m_read, .int 0, .int 0, .int 0, .ref m_tets, .int 0, .int 0, .int 0, .int 0, .int 0, .int 0, .int 0, .int 0, .ref m_primes, .ref m_often, .ref m_normal, .ref m_termM, .ref m_termP, .ref m_termV, .ref m_sumFrom, .ref m_sumMany, .int 0, .int 0, .int 0, .int 0, .ref m_part, .ref m_fair, .ref m_heap, .ref m_pickTet, .ref m_pickEdge, .ref m_base, .ref m_baseM, .ref m_baseP, .ref m_rowsOf, .int 0, .ref m_grid, .ref m_times, .ref m_boxes, .ref m_cameFrom, .ref m_cameBy, .ref m_steps, .ref m_sides, .int (nI (q_see P k (d + 1) (bx_mk (u0 / (n - 1) * n) (u1 / n * (n - 1)) u2)).length), .int (-1), .ref m_next, .ref m_cube, .ref m_ways])), (m_boxes, .inl (cI, 3600, (.inl g_104))), (m_cameFrom, .inl (cI, 1200, (.inl g_105))), (m_cameBy, .inl (cI, 1200, (.inl g_106)))] H := hP
          have hD : va_D A [(m_next, .inl (cI, 3, (.inl g_93))), (m0, .inr (11, [.int 0, .ref m_tape, .int 0, .int 0, .int 0, .ref m_read, .int 0, .int 0, .int 0, .ref m_tets, .int 0, .int 0, .int 0, .int 0, .int 0, .int 0, .int 0, .int 0, .ref m_primes, .ref m_often, .ref m_normal, .ref m_termM, .ref m_termP, .ref m_termV, .ref m_sumFrom, .ref m_sumMany, .int 0, .int 0, .int 0, .int 0, .ref m_part, .ref m_fair, .ref m_heap, .ref m_pickTet, .ref m_pickEdge, .ref m_base, .ref m_baseM, .ref m_baseP, .ref m_rowsOf, .int 0, .ref m_grid, .ref m_times, .ref m_boxes, .ref m_cameFrom, .ref m_cameBy, .ref m_steps, .ref m_sides, .int (nI (q_see P k (d + 1) (bx_mk (u0 / (n - 1) * n) (u1 / n * (n - 1)) u2)).length), .int (-1), .ref m_next, .ref m_cube, .ref m_ways])), (m_boxes, .inl (cI, 3600, (.inl g_104))), (m_cameFrom, .inl (cI, 1200, (.inl g_105))), (m_cameBy, .inl (cI, 1200, (.inl g_106)))] := hD
          have hPT : q_sees k (d + 1) (nb_n u0 u1 u2 1 0 (25 - (n + 1)) (n + 1) ++ (nb_n u0 u1 u2 1 2 23 2 ++ (nb_n u0 u1 u2 2 0 23 2 ++ (nb_n u0 u1 u2 2 1 23 2 ++ [])))) (q_see P k (d + 1) (bx_mk (u0 / (n - 1) * n) (u1 / n * (n - 1)) u2)) = T := hPT
          obtain ⟨x_108, ex_108⟩ : ∃ y : Int32, y = (nI n) + 1 := ⟨_, rfl⟩
          refine lv_iinc (v := x_108) (lv' := [(4, .int x_108), (5, .int 3), (0, .ref m0), (1, .int (nI k)), (2, .int 1), (3, .int 0)]) hx hb dX11_goesFrom_110 hl (k := 5) rfl (by rw [ex_108]; rfl) (by decide) rfl (fun ls hl => ?_)
          obtain rfl : x_108 = nI (n + 1) := ex_108.trans (nI_1 n)
          have hl : lv_has ls 6 [(4, .int (nI (n + 1))), (5, .int 3), (0, .ref m0), (1, .int (nI k)), (2, .int 1), (3, .int 0)] := hl
          refine lv_goto (tgt := 17) hx hb dX11_goesFrom_113 (by decide) ?_
          exact out _ _ _ (ih10 (n + 1) _ _ _ _ _ (by omega) (by omega) (by omega) (q_pre_at (q_see_pre P k (d + 1) (bx_mk (u0 / (n - 1) * n) (u1 / n * (n - 1)) u2)) hP0) (q_in_add hPI hgo) h_107 hPT _ _ (hP.sub [1, 2, 3, 4, 0] rfl) (hD.sub [1, 2, 3, 4, 0] (by decide) rfl) hS ls (lv_sub hl [2, 3, 4, 5, 0] rfl))
  have loop02 : ∀ (f02 : Nat) (n : Nat) (P : List qE) (gb : Nat → Int32) (gc : Nat → Int32) (gd : Nat → Int32) (gn : Nat → Int32) (h5 : n + f02 = 26) (h6 : 2 ≤ n) (h7 : n ≤ 25) (hP0 : P[k]? = some (bx_mk u0 u1 u2, pk, d)) (hPI : q_in V P) (hPR : RR P gb gc) (hPT : q_sees k (d + 1) (nb_n u0 u1 u2 0 2 (25 - n) n ++ (nb_n u0 u1 u2 1 0 23 2 ++ (nb_n u0 u1 u2 1 2 23 2 ++ (nb_n u0 u1 u2 2 0 23 2 ++ (nb_n u0 u1 u2 2 1 23 2 ++ []))))) P = T) (H : Heap) (locs : List Loc) (_ : va_P (dC, dI) vwCl [(m0, .inr (11, [.int 0, .ref m_tape, .int 0, .int 0, .int 0, .ref m_read, .int 0, .int 0, .int 0, .ref m_tets, .int 0, .int 0, .int 0, .int 0, .int 0, .int 0, .int 0, .int 0, .ref m_primes, .ref m_often, .ref m_normal, .ref m_termM, .ref m_termP, .ref m_termV, .ref m_sumFrom, .ref m_sumMany, .int 0, .int 0, .int 0, .int 0, .ref m_part, .ref m_fair, .ref m_heap, .ref m_pickTet, .ref m_pickEdge, .ref m_base, .ref m_baseM, .ref m_baseP, .ref m_rowsOf, .int 0, .ref m_grid, .ref m_times, .ref m_boxes, .ref m_cameFrom, .ref m_cameBy, .ref m_steps, .ref m_sides, .int (nI P.length), .int (-1), .ref m_next, .ref m_cube, .ref m_ways])), (m_boxes, .inl (cI, 3600, (.inl gb))), (m_cameFrom, .inl (cI, 1200, (.inl gc))), (m_cameBy, .inl (cI, 1200, (.inl gd))), (m_next, .inl (cI, 3, (.inl gn)))] H) (_ : va_D A [(m0, .inr (11, [.int 0, .ref m_tape, .int 0, .int 0, .int 0, .ref m_read, .int 0, .int 0, .int 0, .ref m_tets, .int 0, .int 0, .int 0, .int 0, .int 0, .int 0, .int 0, .int 0, .ref m_primes, .ref m_often, .ref m_normal, .ref m_termM, .ref m_termP, .ref m_termV, .ref m_sumFrom, .ref m_sumMany, .int 0, .int 0, .int 0, .int 0, .ref m_part, .ref m_fair, .ref m_heap, .ref m_pickTet, .ref m_pickEdge, .ref m_base, .ref m_baseM, .ref m_baseP, .ref m_rowsOf, .int 0, .ref m_grid, .ref m_times, .ref m_boxes, .ref m_cameFrom, .ref m_cameBy, .ref m_steps, .ref m_sides, .int (nI P.length), .int (-1), .ref m_next, .ref m_cube, .ref m_ways])), (m_boxes, .inl (cI, 3600, (.inl gb))), (m_cameFrom, .inl (cI, 1200, (.inl gc))), (m_cameBy, .inl (cI, 1200, (.inl gd))), (m_next, .inl (cI, 3, (.inl gn)))]) (_ : va_S A s.heap H locs) (ls : Array Slot) (_ : lv_has ls 6 [(0, .ref m0), (1, .int (nI k)), (2, .int 0), (3, .int 2), (4, .int (nI n))]), G H locs (F0 m 17 ls []) := by
    intro f02
    induction f02 with
    | zero =>
      intro n P gb gc gd gn h5 h6 h7 hP0 hPI hPR hPT H locs hP hD hS ls hl
      exfalso; omega
    | succ f02 ih02 =>
      intro n P gb gc gd gn h5 h6 h7 hP0 hPI hPR hPT H locs hP hD hS ls hl
      refine inn _ _ _ ?_
      have hPl : P.length ≤ 96 := Nat.le_trans (q_pre_len (hPT ▸ q_sees_pre k (d + 1) (nb_n u0 u1 u2 0 2 (25 - n) n ++ (nb_n u0 u1 u2 1 0 23 2 ++ (nb_n u0 u1 u2 1 2 23 2 ++ (nb_n u0 u1 u2 2 0 23 2 ++ (nb_n u0 u1 u2 2 1 23 2 ++ []))))) P)) hTl
      have hkl := q_lt hP0
      refine lv_iload hx hb dX11_goesFrom_17 (lv_at hl 4 rfl) ?_
      refine lv_bipush (v := 24) hx hb dX11_goesFrom_19 (by decide) ?_
      refine lv_icmp_gt (tgt := 116) hx hb dX11_goesFrom_21 (by decide) (fun c_109 => ?_) (fun c_109 => ?_)
      · have c_109 : 24 < n := (nI_ltI (a := 24) (b := n) (by omega) (by omega)).mp c_109
        have hPT : q_sees k (d + 1) (nb_n u0 u1 u2 1 0 23 2 ++ (nb_n u0 u1 u2 1 2 23 2 ++ (nb_n u0 u1 u2 2 0 23 2 ++ (nb_n u0 u1 u2 2 1 23 2 ++ [])))) P = T := by
          rw [show 25 - n = 0 by omega] at hPT
          exact hPT
        refine lv_iinc (v := 3) (lv' := [(3, .int 3), (0, .ref m0), (1, .int (nI k)), (2, .int 0), (4, .int (nI n))]) hx hb dX11_goesFrom_116 hl (k := 3) rfl (by decide) (by decide) rfl (fun ls hl => ?_)
        refine lv_goto (tgt := 9) hx hb dX11_goesFrom_119 (by decide) ?_
        refine lv_iload_n hx hb dX11_goesFrom_9 rfl (lv_at hl 0 rfl) ?_
        refine lv_iconst (v := 3) hx hb dX11_goesFrom_10 (by decide) ?_
        refine lv_icmp_ge (tgt := 122) hx hb dX11_goesFrom_11 (by decide) (fun _ => ?_) (fun c => absurd (by decide) c)
        refine lv_iinc (v := 1) (lv' := [(2, .int 1), (3, .int 3), (0, .ref m0), (1, .int (nI k)), (4, .int (nI n))]) hx hb dX11_goesFrom_122 hl (k := 3) rfl (by decide) (by decide) rfl (fun ls hl => ?_)
        refine lv_goto (tgt := 2) hx hb dX11_goesFrom_125 (by decide) ?_
        refine lv_iload_n hx hb dX11_goesFrom_2 rfl (lv_at hl 0 rfl) ?_
        refine lv_iconst (v := 3) hx hb dX11_goesFrom_3 (by decide) ?_
        refine lv_icmp_ge (tgt := 128) hx hb dX11_goesFrom_4 (by decide) (fun c => absurd c (by decide)) (fun _ => ?_)
        refine lv_iconst (v := 0) hx hb dX11_goesFrom_7 (by decide) ?_
        refine lv_istore_n (lv' := [(3, .int 0), (2, .int 1), (0, .ref m0), (1, .int (nI k)), (4, .int (nI n))]) hx hb dX11_goesFrom_8 rfl hl (by decide) rfl (fun ls hl => ?_)
        refine lv_iload_n hx hb dX11_goesFrom_9 rfl (lv_at hl 0 rfl) ?_
        refine lv_iconst (v := 3) hx hb dX11_goesFrom_10 (by decide) ?_
        refine lv_icmp_ge (tgt := 122) hx hb dX11_goesFrom_11 (by decide) (fun c => absurd c (by decide)) (fun _ => ?_)
        refine lv_iconst (v := 2) hx hb dX11_goesFrom_14 (by decide) ?_
        refine lv_istore (lv' := [(4, .int 2), (3, .int 0), (2, .int 1), (0, .ref m0), (1, .int (nI k))]) hx hb dX11_goesFrom_15 hl (by decide) rfl (fun ls hl => ?_)
        exact out _ _ _ (loop10 24 2 P gb gc gd _ rfl (by omega) (by omega) hP0 hPI hPR hPT _ _ (hP.sub [0, 1, 2, 3, 4] rfl) (hD.sub [0, 1, 2, 3, 4] (by decide) rfl) hS ls (lv_sub hl [3, 4, 2, 1, 0] rfl))
      · have c_109 : ¬ 24 < n := fun q9 => c_109 ((nI_ltI (a := 24) (b := n) (by omega) (by omega)).mpr q9)
        rw [show 25 - n = (25 - (n + 1)) + 1 by omega] at hPT
        refine lv_iload_n hx hb dX11_goesFrom_24 rfl (lv_at hl 2 rfl) ?_
        refine lv_iload_n hx hb dX11_goesFrom_25 rfl (lv_at hl 3 rfl) ?_
        refine lv_icmp_eq (tgt := 116) hx hb dX11_goesFrom_26 (by decide) (fun c => absurd c (by decide)) (fun _ => ?_)
        refine lv_iconst (v := 0) hx hb dX11_goesFrom_29 (by decide) ?_
        refine lv_istore (lv' := [(5, .int 0), (0, .ref m0), (1, .int (nI k)), (2, .int 0), (3, .int 2), (4, .int (nI n))]) hx hb dX11_goesFrom_30 hl (by decide) rfl (fun ls hl => ?_)
        refine lv_iload hx hb dX11_goesFrom_32 (lv_at hl 0 rfl) ?_
        refine lv_iconst (v := 3) hx hb dX11_goesFrom_34 (by decide) ?_
        refine lv_icmp_ge (tgt := 62) hx hb dX11_goesFrom_35 (by decide) (fun c => absurd c (by decide)) (fun _ => ?_)
        refine lv_aload_n hx hb dX11_goesFrom_38 rfl (lv_at hl 1 rfl) ?_
        refine va_get (D := (dC, dI)) (ci := 11) (v := .ref m_next) (C := RX11) (T := TX11) (N := 52) hx hb hts hiX11 hown hK hP 0 rfl rfl 49 (by decide) (hts (.fieldLink RX11 97 "ScissorsTableModel" "next" "[I") (by decide +kernel)) (fun _ h9 => h9) rfl dX11_goesFrom_39 ?_
        refine lv_iload hx hb dX11_goesFrom_42 (lv_at hl 0 rfl) ?_
        refine lv_aload_n hx hb dX11_goesFrom_44 rfl (lv_at hl 1 rfl) ?_
        refine va_get (D := (dC, dI)) (ci := 11) (v := .ref m_boxes) (C := RX11) (T := TX11) (N := 52) hx hb hts hiX11 hown hK hP 0 rfl rfl 42 (by decide) (hts (.fieldLink RX11 78 "ScissorsTableModel" "boxes" "[I") (by decide +kernel)) (fun _ h9 => h9) rfl dX11_goesFrom_45 ?_
        refine lv_iconst (v := 3) hx hb dX11_goesFrom_48 (by decide) ?_
        refine lv_iload_n hx hb dX11_goesFrom_49 rfl (lv_at hl 2 rfl) ?_
        refine lv_imul hx hb dX11_goesFrom_50 ?_
        refine lv_topi (fun x_110 ex_110 => ?_)
        obtain rfl : x_110 = nI (3 * k) := ex_110.trans (pk_mul 3 k)
        refine lv_iload hx hb dX11_goesFrom_51 (lv_at hl 0 rfl) ?_
        refine lv_iadd hx hb dX11_goesFrom_53 ?_
        refine lv_topi (fun x_111 ex_111 => ?_)
        obtain rfl : x_111 = nI ((3 * k) + 0) := ex_111.trans (nI_add (3 * k) 0)
        refine va_iald hx hb hK hP 1 1 rfl rfl (vp_in_nI (by omega) (by decide)) dX11_goesFrom_54 ?_
        refine lv_topi (fun x_112 ex_112 => ?_)
        rw [nI_clamp (show (3 * k) + 0 < 2 ^ 31 by omega)] at ex_112
        obtain rfl : x_112 = nI u0 := ex_112.trans ((hPR k _ hP0).1.trans (congrArg nI (bx_x (by omega) (by omega))))
        refine va_iast hx hb hK hP hD hS 4 1 rfl rfl (by show ¬ (_ ∨ _); decide) dX11_goesFrom_55 (fun H locs hP hD hS => ?_)
        rw [show (0 : Int32).toNatClampNeg = 0 from rfl] at hP hD
        have hP : va_P (dC, dI) vwCl [(m0, .inr (11, [.int 0, .ref m_tape, .int 0, .int 0, .int 0, .ref m_read, .int 0, .int 0, .int 0, .ref m_tets, .int 0, .int 0, .int 0, .int 0, .int 0, .int 0, .int 0, .int 0, .ref m_primes, .ref m_often, .ref m_normal, .ref m_termM, .ref m_termP, .ref m_termV, .ref m_sumFrom, .ref m_sumMany, .int 0, .int 0, .int 0, .int 0, .ref m_part, .ref m_fair, .ref m_heap, .ref m_pickTet, .ref m_pickEdge, .ref m_base, .ref m_baseM, .ref m_baseP, .ref m_rowsOf, .int 0, .ref m_grid, .ref m_times, .ref m_boxes, .ref m_cameFrom, .ref m_cameBy, .ref m_steps, .ref m_sides, .int (nI P.length), .int (-1), .ref m_next, .ref m_cube, .ref m_ways])), (m_boxes, .inl (cI, 3600, (.inl gb))), (m_cameFrom, .inl (cI, 1200, (.inl gc))), (m_cameBy, .inl (cI, 1200, (.inl gd))), (m_next, .inl (cI, 3, (.inl (upd gn 0 (nI u0)))))] H := hP
        have hD : va_D A [(m0, .inr (11, [.int 0, .ref m_tape, .int 0, .int 0, .int 0, .ref m_read, .int 0, .int 0, .int 0, .ref m_tets, .int 0, .int 0, .int 0, .int 0, .int 0, .int 0, .int 0, .int 0, .ref m_primes, .ref m_often, .ref m_normal, .ref m_termM, .ref m_termP, .ref m_termV, .ref m_sumFrom, .ref m_sumMany, .int 0, .int 0, .int 0, .int 0, .ref m_part, .ref m_fair, .ref m_heap, .ref m_pickTet, .ref m_pickEdge, .ref m_base, .ref m_baseM, .ref m_baseP, .ref m_rowsOf, .int 0, .ref m_grid, .ref m_times, .ref m_boxes, .ref m_cameFrom, .ref m_cameBy, .ref m_steps, .ref m_sides, .int (nI P.length), .int (-1), .ref m_next, .ref m_cube, .ref m_ways])), (m_boxes, .inl (cI, 3600, (.inl gb))), (m_cameFrom, .inl (cI, 1200, (.inl gc))), (m_cameBy, .inl (cI, 1200, (.inl gd))), (m_next, .inl (cI, 3, (.inl (upd gn 0 (nI u0)))))] := hD
        refine lv_iinc (v := 1) (lv' := [(5, .int 1), (0, .ref m0), (1, .int (nI k)), (2, .int 0), (3, .int 2), (4, .int (nI n))]) hx hb dX11_goesFrom_56 hl (k := 0) rfl (by decide) (by decide) rfl (fun ls hl => ?_)
        refine lv_goto (tgt := 32) hx hb dX11_goesFrom_59 (by decide) ?_
        refine lv_iload hx hb dX11_goesFrom_32 (lv_at hl 0 rfl) ?_
        refine lv_iconst (v := 3) hx hb dX11_goesFrom_34 (by decide) ?_
        refine lv_icmp_ge (tgt := 62) hx hb dX11_goesFrom_35 (by decide) (fun c => absurd c (by decide)) (fun _ => ?_)
        refine lv_aload_n hx hb dX11_goesFrom_38 rfl (lv_at hl 1 rfl) ?_
        refine va_get (D := (dC, dI)) (ci := 11) (v := .ref m_next) (C := RX11) (T := TX11) (N := 52) hx hb hts hiX11 hown hK hP 0 rfl rfl 49 (by decide) (hts (.fieldLink RX11 97 "ScissorsTableModel" "next" "[I") (by decide +kernel)) (fun _ h9 => h9) rfl dX11_goesFrom_39 ?_
        refine lv_iload hx hb dX11_goesFrom_42 (lv_at hl 0 rfl) ?_
        refine lv_aload_n hx hb dX11_goesFrom_44 rfl (lv_at hl 1 rfl) ?_
        refine va_get (D := (dC, dI)) (ci := 11) (v := .ref m_boxes) (C := RX11) (T := TX11) (N := 52) hx hb hts hiX11 hown hK hP 0 rfl rfl 42 (by decide) (hts (.fieldLink RX11 78 "ScissorsTableModel" "boxes" "[I") (by decide +kernel)) (fun _ h9 => h9) rfl dX11_goesFrom_45 ?_
        refine lv_iconst (v := 3) hx hb dX11_goesFrom_48 (by decide) ?_
        refine lv_iload_n hx hb dX11_goesFrom_49 rfl (lv_at hl 2 rfl) ?_
        refine lv_imul hx hb dX11_goesFrom_50 ?_
        refine lv_topi (fun x_113 ex_113 => ?_)
        obtain rfl : x_113 = nI (3 * k) := ex_113.trans (pk_mul 3 k)
        refine lv_iload hx hb dX11_goesFrom_51 (lv_at hl 0 rfl) ?_
        refine lv_iadd hx hb dX11_goesFrom_53 ?_
        refine lv_topi (fun x_114 ex_114 => ?_)
        obtain rfl : x_114 = nI ((3 * k) + 1) := ex_114.trans (nI_add (3 * k) 1)
        refine va_iald hx hb hK hP 1 1 rfl rfl (vp_in_nI (by omega) (by decide)) dX11_goesFrom_54 ?_
        refine lv_topi (fun x_115 ex_115 => ?_)
        rw [nI_clamp (show (3 * k) + 1 < 2 ^ 31 by omega)] at ex_115
        obtain rfl : x_115 = nI u1 := ex_115.trans ((hPR k _ hP0).2.1.trans (congrArg nI (bx_y (by omega) (by omega))))
        refine va_iast hx hb hK hP hD hS 4 1 rfl rfl (by show ¬ (_ ∨ _); decide) dX11_goesFrom_55 (fun H locs hP hD hS => ?_)
        rw [show (1 : Int32).toNatClampNeg = 1 from rfl] at hP hD
        have hP : va_P (dC, dI) vwCl [(m0, .inr (11, [.int 0, .ref m_tape, .int 0, .int 0, .int 0, .ref m_read, .int 0, .int 0, .int 0, .ref m_tets, .int 0, .int 0, .int 0, .int 0, .int 0, .int 0, .int 0, .int 0, .ref m_primes, .ref m_often, .ref m_normal, .ref m_termM, .ref m_termP, .ref m_termV, .ref m_sumFrom, .ref m_sumMany, .int 0, .int 0, .int 0, .int 0, .ref m_part, .ref m_fair, .ref m_heap, .ref m_pickTet, .ref m_pickEdge, .ref m_base, .ref m_baseM, .ref m_baseP, .ref m_rowsOf, .int 0, .ref m_grid, .ref m_times, .ref m_boxes, .ref m_cameFrom, .ref m_cameBy, .ref m_steps, .ref m_sides, .int (nI P.length), .int (-1), .ref m_next, .ref m_cube, .ref m_ways])), (m_boxes, .inl (cI, 3600, (.inl gb))), (m_cameFrom, .inl (cI, 1200, (.inl gc))), (m_cameBy, .inl (cI, 1200, (.inl gd))), (m_next, .inl (cI, 3, (.inl (upd (upd gn 0 (nI u0)) 1 (nI u1)))))] H := hP
        have hD : va_D A [(m0, .inr (11, [.int 0, .ref m_tape, .int 0, .int 0, .int 0, .ref m_read, .int 0, .int 0, .int 0, .ref m_tets, .int 0, .int 0, .int 0, .int 0, .int 0, .int 0, .int 0, .int 0, .ref m_primes, .ref m_often, .ref m_normal, .ref m_termM, .ref m_termP, .ref m_termV, .ref m_sumFrom, .ref m_sumMany, .int 0, .int 0, .int 0, .int 0, .ref m_part, .ref m_fair, .ref m_heap, .ref m_pickTet, .ref m_pickEdge, .ref m_base, .ref m_baseM, .ref m_baseP, .ref m_rowsOf, .int 0, .ref m_grid, .ref m_times, .ref m_boxes, .ref m_cameFrom, .ref m_cameBy, .ref m_steps, .ref m_sides, .int (nI P.length), .int (-1), .ref m_next, .ref m_cube, .ref m_ways])), (m_boxes, .inl (cI, 3600, (.inl gb))), (m_cameFrom, .inl (cI, 1200, (.inl gc))), (m_cameBy, .inl (cI, 1200, (.inl gd))), (m_next, .inl (cI, 3, (.inl (upd (upd gn 0 (nI u0)) 1 (nI u1)))))] := hD
        refine lv_iinc (v := 2) (lv' := [(5, .int 2), (0, .ref m0), (1, .int (nI k)), (2, .int 0), (3, .int 2), (4, .int (nI n))]) hx hb dX11_goesFrom_56 hl (k := 0) rfl (by decide) (by decide) rfl (fun ls hl => ?_)
        refine lv_goto (tgt := 32) hx hb dX11_goesFrom_59 (by decide) ?_
        refine lv_iload hx hb dX11_goesFrom_32 (lv_at hl 0 rfl) ?_
        refine lv_iconst (v := 3) hx hb dX11_goesFrom_34 (by decide) ?_
        refine lv_icmp_ge (tgt := 62) hx hb dX11_goesFrom_35 (by decide) (fun c => absurd c (by decide)) (fun _ => ?_)
        refine lv_aload_n hx hb dX11_goesFrom_38 rfl (lv_at hl 1 rfl) ?_
        refine va_get (D := (dC, dI)) (ci := 11) (v := .ref m_next) (C := RX11) (T := TX11) (N := 52) hx hb hts hiX11 hown hK hP 0 rfl rfl 49 (by decide) (hts (.fieldLink RX11 97 "ScissorsTableModel" "next" "[I") (by decide +kernel)) (fun _ h9 => h9) rfl dX11_goesFrom_39 ?_
        refine lv_iload hx hb dX11_goesFrom_42 (lv_at hl 0 rfl) ?_
        refine lv_aload_n hx hb dX11_goesFrom_44 rfl (lv_at hl 1 rfl) ?_
        refine va_get (D := (dC, dI)) (ci := 11) (v := .ref m_boxes) (C := RX11) (T := TX11) (N := 52) hx hb hts hiX11 hown hK hP 0 rfl rfl 42 (by decide) (hts (.fieldLink RX11 78 "ScissorsTableModel" "boxes" "[I") (by decide +kernel)) (fun _ h9 => h9) rfl dX11_goesFrom_45 ?_
        refine lv_iconst (v := 3) hx hb dX11_goesFrom_48 (by decide) ?_
        refine lv_iload_n hx hb dX11_goesFrom_49 rfl (lv_at hl 2 rfl) ?_
        refine lv_imul hx hb dX11_goesFrom_50 ?_
        refine lv_topi (fun x_116 ex_116 => ?_)
        obtain rfl : x_116 = nI (3 * k) := ex_116.trans (pk_mul 3 k)
        refine lv_iload hx hb dX11_goesFrom_51 (lv_at hl 0 rfl) ?_
        refine lv_iadd hx hb dX11_goesFrom_53 ?_
        refine lv_topi (fun x_117 ex_117 => ?_)
        obtain rfl : x_117 = nI ((3 * k) + 2) := ex_117.trans (nI_add (3 * k) 2)
        refine va_iald hx hb hK hP 1 1 rfl rfl (vp_in_nI (by omega) (by decide)) dX11_goesFrom_54 ?_
        refine lv_topi (fun x_118 ex_118 => ?_)
        rw [nI_clamp (show (3 * k) + 2 < 2 ^ 31 by omega)] at ex_118
        obtain rfl : x_118 = nI u2 := ex_118.trans ((hPR k _ hP0).2.2.1.trans (congrArg nI (bx_z (by omega))))
        refine va_iast hx hb hK hP hD hS 4 1 rfl rfl (by show ¬ (_ ∨ _); decide) dX11_goesFrom_55 (fun H locs hP hD hS => ?_)
        rw [show (2 : Int32).toNatClampNeg = 2 from rfl] at hP hD
        have hP : va_P (dC, dI) vwCl [(m0, .inr (11, [.int 0, .ref m_tape, .int 0, .int 0, .int 0, .ref m_read, .int 0, .int 0, .int 0, .ref m_tets, .int 0, .int 0, .int 0, .int 0, .int 0, .int 0, .int 0, .int 0, .ref m_primes, .ref m_often, .ref m_normal, .ref m_termM, .ref m_termP, .ref m_termV, .ref m_sumFrom, .ref m_sumMany, .int 0, .int 0, .int 0, .int 0, .ref m_part, .ref m_fair, .ref m_heap, .ref m_pickTet, .ref m_pickEdge, .ref m_base, .ref m_baseM, .ref m_baseP, .ref m_rowsOf, .int 0, .ref m_grid, .ref m_times, .ref m_boxes, .ref m_cameFrom, .ref m_cameBy, .ref m_steps, .ref m_sides, .int (nI P.length), .int (-1), .ref m_next, .ref m_cube, .ref m_ways])), (m_boxes, .inl (cI, 3600, (.inl gb))), (m_cameFrom, .inl (cI, 1200, (.inl gc))), (m_cameBy, .inl (cI, 1200, (.inl gd))), (m_next, .inl (cI, 3, (.inl (upd (upd (upd gn 0 (nI u0)) 1 (nI u1)) 2 (nI u2)))))] H := hP
        have hD : va_D A [(m0, .inr (11, [.int 0, .ref m_tape, .int 0, .int 0, .int 0, .ref m_read, .int 0, .int 0, .int 0, .ref m_tets, .int 0, .int 0, .int 0, .int 0, .int 0, .int 0, .int 0, .int 0, .ref m_primes, .ref m_often, .ref m_normal, .ref m_termM, .ref m_termP, .ref m_termV, .ref m_sumFrom, .ref m_sumMany, .int 0, .int 0, .int 0, .int 0, .ref m_part, .ref m_fair, .ref m_heap, .ref m_pickTet, .ref m_pickEdge, .ref m_base, .ref m_baseM, .ref m_baseP, .ref m_rowsOf, .int 0, .ref m_grid, .ref m_times, .ref m_boxes, .ref m_cameFrom, .ref m_cameBy, .ref m_steps, .ref m_sides, .int (nI P.length), .int (-1), .ref m_next, .ref m_cube, .ref m_ways])), (m_boxes, .inl (cI, 3600, (.inl gb))), (m_cameFrom, .inl (cI, 1200, (.inl gc))), (m_cameBy, .inl (cI, 1200, (.inl gd))), (m_next, .inl (cI, 3, (.inl (upd (upd (upd gn 0 (nI u0)) 1 (nI u1)) 2 (nI u2)))))] := hD
        refine lv_iinc (v := 3) (lv' := [(5, .int 3), (0, .ref m0), (1, .int (nI k)), (2, .int 0), (3, .int 2), (4, .int (nI n))]) hx hb dX11_goesFrom_56 hl (k := 0) rfl (by decide) (by decide) rfl (fun ls hl => ?_)
        refine lv_goto (tgt := 32) hx hb dX11_goesFrom_59 (by decide) ?_
        refine lv_iload hx hb dX11_goesFrom_32 (lv_at hl 0 rfl) ?_
        refine lv_iconst (v := 3) hx hb dX11_goesFrom_34 (by decide) ?_
        refine lv_icmp_ge (tgt := 62) hx hb dX11_goesFrom_35 (by decide) (fun _ => ?_) (fun c => absurd (by decide) c)
        refine lv_aload_n hx hb dX11_goesFrom_62 rfl (lv_at hl 1 rfl) ?_
        refine lv_iload_n hx hb dX11_goesFrom_63 rfl (lv_at hl 3 rfl) ?_
        refine lv_iload_n hx hb dX11_goesFrom_64 rfl (lv_at hl 4 rfl) ?_
        refine lv_iload hx hb dX11_goesFrom_65 (lv_at hl 5 rfl) ?_
        have hPc := hP.sub (ws' := [(m0, .inr (11, [.int 0, .ref m_tape, .int 0, .int 0, .int 0, .ref m_read, .int 0, .int 0, .int 0, .ref m_tets, .int 0, .int 0, .int 0, .int 0, .int 0, .int 0, .int 0, .int 0, .ref m_primes, .ref m_often, .ref m_normal, .ref m_termM, .ref m_termP, .ref m_termV, .ref m_sumFrom, .ref m_sumMany, .int 0, .int 0, .int 0, .int 0, .ref m_part, .ref m_fair, .ref m_heap, .ref m_pickTet, .ref m_pickEdge, .ref m_base, .ref m_baseM, .ref m_baseP, .ref m_rowsOf, .int 0, .ref m_grid, .ref m_times, .ref m_boxes, .ref m_cameFrom, .ref m_cameBy, .ref m_steps, .ref m_sides, .int (nI P.length), .int (-1), .ref m_next, .ref m_cube, .ref m_ways])), (m_next, .inl (cI, 3, (.inl (upd (upd (upd gn 0 (nI u0)) 1 (nI u1)) 2 (nI u2)))))]) [0, 4] rfl
        have hDc := hD.sub (ws' := [(m0, .inr (11, [.int 0, .ref m_tape, .int 0, .int 0, .int 0, .ref m_read, .int 0, .int 0, .int 0, .ref m_tets, .int 0, .int 0, .int 0, .int 0, .int 0, .int 0, .int 0, .int 0, .ref m_primes, .ref m_often, .ref m_normal, .ref m_termM, .ref m_termP, .ref m_termV, .ref m_sumFrom, .ref m_sumMany, .int 0, .int 0, .int 0, .int 0, .ref m_part, .ref m_fair, .ref m_heap, .ref m_pickTet, .ref m_pickEdge, .ref m_base, .ref m_baseM, .ref m_baseP, .ref m_rowsOf, .int 0, .ref m_grid, .ref m_times, .ref m_boxes, .ref m_cameFrom, .ref m_cameBy, .ref m_steps, .ref m_sides, .int (nI P.length), .int (-1), .ref m_next, .ref m_cube, .ref m_ways])), (m_next, .inl (cI, 3, (.inl (upd (upd (upd gn 0 (nI u0)) 1 (nI u1)) 2 (nI u2)))))]) [0, 4] (by decide) rfl
        have hFc := va_free (wc := [(m0, .inr (11, [.int 0, .ref m_tape, .int 0, .int 0, .int 0, .ref m_read, .int 0, .int 0, .int 0, .ref m_tets, .int 0, .int 0, .int 0, .int 0, .int 0, .int 0, .int 0, .int 0, .ref m_primes, .ref m_often, .ref m_normal, .ref m_termM, .ref m_termP, .ref m_termV, .ref m_sumFrom, .ref m_sumMany, .int 0, .int 0, .int 0, .int 0, .ref m_part, .ref m_fair, .ref m_heap, .ref m_pickTet, .ref m_pickEdge, .ref m_base, .ref m_baseM, .ref m_baseP, .ref m_rowsOf, .int 0, .ref m_grid, .ref m_times, .ref m_boxes, .ref m_cameFrom, .ref m_cameBy, .ref m_steps, .ref m_sides, .int (nI P.length), .int (-1), .ref m_next, .ref m_cube, .ref m_ways])), (m_next, .inl (cI, 3, (.inl (upd (upd (upd gn 0 (nI u0)) 1 (nI u1)) 2 (nI u2)))))]) hD hS hA [0, 4] rfl
        refine va_calli (va_runV (As := [.int 0, .int 2, .int (nI n)]) (rest := []) ⟨hx, hb, hml, hown, hts⟩ (c_X11_goes__02 l dC dI cB cI cJ H.size m0 m_tape m_read m_tets m_primes m_often m_normal m_termM m_termP m_termV m_sumFrom m_sumMany m_part m_fair m_heap m_pickTet m_pickEdge m_base m_baseM m_baseP m_rowsOf m_grid m_times m_boxes m_cameFrom m_cameBy m_steps m_sides m_next m_cube m_ways (nI P.length) (upd (upd (upd gn 0 (nI u0)) 1 (nI u1)) 2 (nI u2)) u0 u1 u2 n hu (by omega) (⟨rfl, rfl, rfl⟩)) (cwV 3 hts gX11_goesFrom_X11_goes_ rfl rfl rfl (by decide +kernel) ⟨Nat.le_of_ble_eq_true rfl, Nat.le_of_ble_eq_true rfl⟩) ⟨fun a U g mk q => by obtain ⟨q0, q1, qP, qK, qD⟩ := q; exact ⟨q0, q1, qP, va_K.moved (u := U) (U := U.calling g mk a) (Vm.Alike.refl U.vm) qK, qD⟩, va_recv hK hP (ci := 11) (q0 := 0) rfl rfl, fun U hU hW => ⟨rfl, by rw [hU], by rw [hU]; exact hPc, va_K.moved hW.alike hK, hDc.weaken (fun _ _ _ _ => trivial)⟩⟩ rfl rfl hl.1 rfl (lv_room (Nat.le_of_ble_eq_true rfl)) dX11_goesFrom_67 ⟨Nat.le_of_ble_eq_true rfl, Nat.le_of_ble_eq_true rfl⟩) hS (fun q _ h => hFc q h) hFc (fun r_119 u t H1 locs ht hvm hw hB hz1 hk1 hS => ?_)
        obtain ⟨g_120, h_121, hP1, hK1, hD1⟩ := hB
        rw [ht] at hP1
        obtain ⟨hP, hD⟩ := va_join (wr := [(m_boxes, .inl (cI, 3600, (.inl gb))), (m_cameFrom, .inl (cI, 1200, (.inl gc))), (m_cameBy, .inl (cI, 1200, (.inl gd)))]) (w1 := [(m0, .inr (11, [.int 0, .ref m_tape, .int 0, .int 0, .int 0, .ref m_read, .int 0, .int 0, .int 0, .ref m_tets, .int 0, .int 0, .int 0, .int 0, .int 0, .int 0, .int 0, .int 0, .ref m_primes, .ref m_often, .ref m_normal, .ref m_termM, .ref m_termP, .ref m_termV, .ref m_sumFrom, .ref m_sumMany, .int 0, .int 0, .int 0, .int 0, .ref m_part, .ref m_fair, .ref m_heap, .ref m_pickTet, .ref m_pickEdge, .ref m_base, .ref m_baseM, .ref m_baseP, .ref m_rowsOf, .int 0, .ref m_grid, .ref m_times, .ref m_boxes, .ref m_cameFrom, .ref m_cameBy, .ref m_steps, .ref m_sides, .int (nI P.length), .int (-1), .ref m_next, .ref m_cube, .ref m_ways])), (m_next, .inl (cI, 3, (.inl g_120)))]) hP hD [0, 4] [1, 2, 3] rfl rfl (by decide) (by decide) hk1 hFc hP1 hD1
        generalize H1 = H at hP hS ⊢
        have hP : va_P (dC, dI) vwCl [(m_boxes, .inl (cI, 3600, (.inl gb))), (m_cameFrom, .inl (cI, 1200, (.inl gc))), (m_cameBy, .inl (cI, 1200, (.inl gd))), (m0, .inr (11, [.int 0, .ref m_tape, .int 0, .int 0, .int 0, .ref m_read, .int 0, .int 0, .int 0, .ref m_tets, .int 0, .int 0, .int 0, .int 0, .int 0, .int 0, .int 0, .int 0, .ref m_primes, .ref m_often, .ref m_normal, .ref m_termM, .ref m_termP, .ref m_termV, .ref m_sumFrom, .ref m_sumMany, .int 0, .int 0, .int 0, .int 0, .ref m_part, .ref m_fair, .ref m_heap, .ref m_pickTet, .ref m_pickEdge, .ref m_base, .ref m_baseM, .ref m_baseP, .ref m_rowsOf, .int 0, .ref m_grid, .ref m_times, .ref m_boxes, .ref m_cameFrom, .ref m_cameBy, .ref m_steps, .ref m_sides, .int (nI P.length), .int (-1), .ref m_next, .ref m_cube, .ref m_ways])), (m_next, .inl (cI, 3, (.inl g_120)))] H := hP
        have hD : va_D A [(m_boxes, .inl (cI, 3600, (.inl gb))), (m_cameFrom, .inl (cI, 1200, (.inl gc))), (m_cameBy, .inl (cI, 1200, (.inl gd))), (m0, .inr (11, [.int 0, .ref m_tape, .int 0, .int 0, .int 0, .ref m_read, .int 0, .int 0, .int 0, .ref m_tets, .int 0, .int 0, .int 0, .int 0, .int 0, .int 0, .int 0, .int 0, .ref m_primes, .ref m_often, .ref m_normal, .ref m_termM, .ref m_termP, .ref m_termV, .ref m_sumFrom, .ref m_sumMany, .int 0, .int 0, .int 0, .int 0, .ref m_part, .ref m_fair, .ref m_heap, .ref m_pickTet, .ref m_pickEdge, .ref m_base, .ref m_baseM, .ref m_baseP, .ref m_rowsOf, .int 0, .ref m_grid, .ref m_times, .ref m_boxes, .ref m_cameFrom, .ref m_cameBy, .ref m_steps, .ref m_sides, .int (nI P.length), .int (-1), .ref m_next, .ref m_cube, .ref m_ways])), (m_next, .inl (cI, 3, (.inl g_120)))] := hD
        have hr_119 := hw
        rcases hr_119 with ⟨rfl, hok⟩ | ⟨rfl, hok⟩
        · have hPT : q_sees k (d + 1) (nb_n u0 u1 u2 0 2 (25 - (n + 1)) (n + 1) ++ (nb_n u0 u1 u2 1 0 23 2 ++ (nb_n u0 u1 u2 1 2 23 2 ++ (nb_n u0 u1 u2 2 0 23 2 ++ (nb_n u0 u1 u2 2 1 23 2 ++ []))))) P = T := (congrArg (fun L9 => q_sees k (d + 1) (L9 ++ (nb_n u0 u1 u2 1 0 23 2 ++ (nb_n u0 u1 u2 1 2 23 2 ++ (nb_n u0 u1 u2 2 0 23 2 ++ (nb_n u0 u1 u2 2 1 23 2 ++ []))))) P) (nb_no (x := u0) (y := u1) (z := u2) (i := 0) (j := 2) (f := 25 - (n + 1)) (n := n) hok)).symm.trans hPT
          refine lv_if_eq (tgt := 110) hx hb dX11_goesFrom_70 (by decide) (fun _ => ?_) (fun c => absurd (by decide) c)
          obtain ⟨x_122, ex_122⟩ : ∃ y : Int32, y = (nI n) + 1 := ⟨_, rfl⟩
          refine lv_iinc (v := x_122) (lv' := [(4, .int x_122), (5, .int 3), (0, .ref m0), (1, .int (nI k)), (2, .int 0), (3, .int 2)]) hx hb dX11_goesFrom_110 hl (k := 5) rfl (by rw [ex_122]; rfl) (by decide) rfl (fun ls hl => ?_)
          obtain rfl : x_122 = nI (n + 1) := ex_122.trans (nI_1 n)
          have hl : lv_has ls 6 [(4, .int (nI (n + 1))), (5, .int 3), (0, .ref m0), (1, .int (nI k)), (2, .int 0), (3, .int 2)] := hl
          refine lv_goto (tgt := 17) hx hb dX11_goesFrom_113 (by decide) ?_
          exact out _ _ _ (ih02 (n + 1) P gb gc gd _ (by omega) (by omega) (by omega) hP0 hPI hPR hPT _ _ (hP.sub [3, 0, 1, 2, 4] rfl) (hD.sub [3, 0, 1, 2, 4] (by decide) rfl) hS ls (lv_sub hl [2, 3, 4, 5, 0] rfl))
        · have hPT : q_sees k (d + 1) ((st_go u0 u1 u2 0 2 n :: nb_n u0 u1 u2 0 2 (25 - (n + 1)) (n + 1)) ++ (nb_n u0 u1 u2 1 0 23 2 ++ (nb_n u0 u1 u2 1 2 23 2 ++ (nb_n u0 u1 u2 2 0 23 2 ++ (nb_n u0 u1 u2 2 1 23 2 ++ []))))) P = T := (congrArg (fun L9 => q_sees k (d + 1) (L9 ++ (nb_n u0 u1 u2 1 0 23 2 ++ (nb_n u0 u1 u2 1 2 23 2 ++ (nb_n u0 u1 u2 2 0 23 2 ++ (nb_n u0 u1 u2 2 1 23 2 ++ []))))) P) (nb_yes (x := u0) (y := u1) (z := u2) (i := 0) (j := 2) (f := 25 - (n + 1)) (n := n) hok)).symm.trans hPT
          have hgz := h_121 hok
          have o1 : u0 % n = 0 := hok.1
          have o2 : u2 % (n - 1) = 0 := hok.2.1
          have o3 : u2 / (n - 1) * n ≤ 24 := hok.2.2
          have l1 := st_lo h6 (show 1 ≤ u0 by omega) (show u0 ≤ 24 by omega) o1
          have l2 := st_hi h6 (show 1 ≤ u2 by omega) o2
          have hgo : bx_in V (st_go u0 u1 u2 0 2 n) := st_go_in hu.1 hu.2.1 hu.2.2 hV (by decide) (by decide) (by decide) h6 (st_ok_iff.mpr hok)
          refine lv_if_eq (tgt := 110) hx hb dX11_goesFrom_70 (by decide) (fun c => absurd c (by decide)) (fun _ => ?_)
          refine lv_aload_n hx hb dX11_goesFrom_73 rfl (lv_at hl 1 rfl) ?_
          refine lv_aload_n hx hb dX11_goesFrom_74 rfl (lv_at hl 1 rfl) ?_
          refine va_get (D := (dC, dI)) (ci := 11) (v := .ref m_next) (C := RX11) (T := TX11) (N := 52) hx hb hts hiX11 hown hK hP 3 rfl rfl 49 (by decide) (hts (.fieldLink RX11 97 "ScissorsTableModel" "next" "[I") (by decide +kernel)) (fun _ h9 => h9) rfl dX11_goesFrom_75 ?_
          refine lv_iconst (v := 0) hx hb dX11_goesFrom_78 (by decide) ?_
          refine va_iald hx hb hK hP 4 1 rfl rfl (by show ¬ (_ ∨ _); decide) dX11_goesFrom_79 ?_
          refine lv_topi (fun x_123 ex_123 => ?_)
          have ex_123 : x_123 = g_120 0 := ex_123
          obtain rfl : x_123 = nI (u0 / n * (n - 1)) := ex_123.trans hgz.1
          refine lv_aload_n hx hb dX11_goesFrom_80 rfl (lv_at hl 1 rfl) ?_
          refine va_get (D := (dC, dI)) (ci := 11) (v := .ref m_next) (C := RX11) (T := TX11) (N := 52) hx hb hts hiX11 hown hK hP 3 rfl rfl 49 (by decide) (hts (.fieldLink RX11 97 "ScissorsTableModel" "next" "[I") (by decide +kernel)) (fun _ h9 => h9) rfl dX11_goesFrom_81 ?_
          refine lv_iconst (v := 1) hx hb dX11_goesFrom_84 (by decide) ?_
          refine va_iald hx hb hK hP 4 1 rfl rfl (by show ¬ (_ ∨ _); decide) dX11_goesFrom_85 ?_
          refine lv_topi (fun x_124 ex_124 => ?_)
          have ex_124 : x_124 = g_120 1 := ex_124
          obtain rfl : x_124 = nI (u1) := ex_124.trans hgz.2.1
          refine lv_aload_n hx hb dX11_goesFrom_86 rfl (lv_at hl 1 rfl) ?_
          refine va_get (D := (dC, dI)) (ci := 11) (v := .ref m_next) (C := RX11) (T := TX11) (N := 52) hx hb hts hiX11 hown hK hP 3 rfl rfl 49 (by decide) (hts (.fieldLink RX11 97 "ScissorsTableModel" "next" "[I") (by decide +kernel)) (fun _ h9 => h9) rfl dX11_goesFrom_87 ?_
          refine lv_iconst (v := 2) hx hb dX11_goesFrom_90 (by decide) ?_
          refine va_iald hx hb hK hP 4 1 rfl rfl (by show ¬ (_ ∨ _); decide) dX11_goesFrom_91 ?_
          refine lv_topi (fun x_125 ex_125 => ?_)
          have ex_125 : x_125 = g_120 2 := ex_125
          obtain rfl : x_125 = nI (u2 / (n - 1) * n) := ex_125.trans hgz.2.2
          refine lv_iload_n hx hb dX11_goesFrom_92 rfl (lv_at hl 2 rfl) ?_
          refine lv_bipush (v := 72) hx hb dX11_goesFrom_93 (by decide) ?_
          refine lv_iload_n hx hb dX11_goesFrom_95 rfl (lv_at hl 3 rfl) ?_
          refine lv_imul hx hb dX11_goesFrom_96 ?_
          refine lv_topi (fun x_126 ex_126 => ?_)
          obtain rfl : x_126 = 0 := ex_126.trans (by first | rfl | decide)
          refine lv_bipush (v := 24) hx hb dX11_goesFrom_97 (by decide) ?_
          refine lv_iload_n hx hb dX11_goesFrom_99 rfl (lv_at hl 4 rfl) ?_
          refine lv_imul hx hb dX11_goesFrom_100 ?_
          refine lv_topi (fun x_127 ex_127 => ?_)
          obtain rfl : x_127 = 48 := ex_127.trans (by first | rfl | decide)
          refine lv_iadd hx hb dX11_goesFrom_101 ?_
          refine lv_topi (fun x_128 ex_128 => ?_)
          obtain rfl : x_128 = 48 := ex_128.trans (by first | rfl | decide)
          refine lv_iload hx hb dX11_goesFrom_102 (lv_at hl 5 rfl) ?_
          refine lv_iadd hx hb dX11_goesFrom_104 ?_
          refine lv_topi (fun x_129 ex_129 => ?_)
          obtain rfl : x_129 = nI (48 + n) := ex_129.trans (nI_add 48 n)
          refine lv_iconst (v := 1) hx hb dX11_goesFrom_105 (by decide) ?_
          refine lv_isub hx hb dX11_goesFrom_106 ?_
          refine lv_topi (fun x_130 ex_130 => ?_)
          obtain rfl : x_130 = nI ((48 + n) - 1) := ex_130.trans (pk_sub (a := 48 + n) (b := 1) (by omega))
          have hvv : (u0 / n * (n - 1)) * u1 * (u2 / (n - 1) * n) = V := by
            obtain ⟨s0, s1, s2, g0, g1, g2, g3, g4⟩ := hgo
            have g4 : bx_mk (u0 / n * (n - 1)) u1 (u2 / (n - 1) * n) = bx_mk s0 s1 s2 := g4
            have g5 := bx_mk_inj g4 (by omega)
            rw [g5.1, g5.2.1, g5.2.2]
            exact g3
          have hPc := hP.sub (ws' := [(m0, .inr (11, [.int 0, .ref m_tape, .int 0, .int 0, .int 0, .ref m_read, .int 0, .int 0, .int 0, .ref m_tets, .int 0, .int 0, .int 0, .int 0, .int 0, .int 0, .int 0, .int 0, .ref m_primes, .ref m_often, .ref m_normal, .ref m_termM, .ref m_termP, .ref m_termV, .ref m_sumFrom, .ref m_sumMany, .int 0, .int 0, .int 0, .int 0, .ref m_part, .ref m_fair, .ref m_heap, .ref m_pickTet, .ref m_pickEdge, .ref m_base, .ref m_baseM, .ref m_baseP, .ref m_rowsOf, .int 0, .ref m_grid, .ref m_times, .ref m_boxes, .ref m_cameFrom, .ref m_cameBy, .ref m_steps, .ref m_sides, .int (nI P.length), .int (-1), .ref m_next, .ref m_cube, .ref m_ways])), (m_boxes, .inl (cI, 3600, (.inl gb))), (m_cameFrom, .inl (cI, 1200, (.inl gc))), (m_cameBy, .inl (cI, 1200, (.inl gd)))]) [3, 0, 1, 2] rfl
          have hDc := hD.sub (ws' := [(m0, .inr (11, [.int 0, .ref m_tape, .int 0, .int 0, .int 0, .ref m_read, .int 0, .int 0, .int 0, .ref m_tets, .int 0, .int 0, .int 0, .int 0, .int 0, .int 0, .int 0, .int 0, .ref m_primes, .ref m_often, .ref m_normal, .ref m_termM, .ref m_termP, .ref m_termV, .ref m_sumFrom, .ref m_sumMany, .int 0, .int 0, .int 0, .int 0, .ref m_part, .ref m_fair, .ref m_heap, .ref m_pickTet, .ref m_pickEdge, .ref m_base, .ref m_baseM, .ref m_baseP, .ref m_rowsOf, .int 0, .ref m_grid, .ref m_times, .ref m_boxes, .ref m_cameFrom, .ref m_cameBy, .ref m_steps, .ref m_sides, .int (nI P.length), .int (-1), .ref m_next, .ref m_cube, .ref m_ways])), (m_boxes, .inl (cI, 3600, (.inl gb))), (m_cameFrom, .inl (cI, 1200, (.inl gc))), (m_cameBy, .inl (cI, 1200, (.inl gd)))]) [3, 0, 1, 2] (by decide) rfl
          have hFc := va_free (wc := [(m0, .inr (11, [.int 0, .ref m_tape, .int 0, .int 0, .int 0, .ref m_read, .int 0, .int 0, .int 0, .ref m_tets, .int 0, .int 0, .int 0, .int 0, .int 0, .int 0, .int 0, .int 0, .ref m_primes, .ref m_often, .ref m_normal, .ref m_termM, .ref m_termP, .ref m_termV, .ref m_sumFrom, .ref m_sumMany, .int 0, .int 0, .int 0, .int 0, .ref m_part, .ref m_fair, .ref m_heap, .ref m_pickTet, .ref m_pickEdge, .ref m_base, .ref m_baseM, .ref m_baseP, .ref m_rowsOf, .int 0, .ref m_grid, .ref m_times, .ref m_boxes, .ref m_cameFrom, .ref m_cameBy, .ref m_steps, .ref m_sides, .int (nI P.length), .int (-1), .ref m_next, .ref m_cube, .ref m_ways])), (m_boxes, .inl (cI, 3600, (.inl gb))), (m_cameFrom, .inl (cI, 1200, (.inl gc))), (m_cameBy, .inl (cI, 1200, (.inl gd)))]) hD hS hA [3, 0, 1, 2] rfl
          refine va_callv (va_runV (As := [.int (nI (u0 / n * (n - 1))), .int (nI (u1)), .int (nI (u2 / (n - 1) * n)), .int (nI k), .int (nI ((48 + n) - 1))]) (rest := []) ⟨hx, hb, hml, hown, hts⟩ (c_X11_meetsBox l dC dI cB cI cJ H.size m0 m_tape m_read m_tets m_primes m_often m_normal m_termM m_termP m_termV m_sumFrom m_sumMany m_part m_fair m_heap m_pickTet m_pickEdge m_base m_baseM m_baseP m_rowsOf m_grid m_times m_boxes m_cameFrom m_cameBy m_steps m_sides m_next m_cube m_ways P gb gc gd V (u0 / n * (n - 1)) u1 (u2 / (n - 1) * n) k (d + 1) (nI k) (nI ((48 + n) - 1)) (by omega) hvv hPI hPR (by omega) ((if_neg (by omega)).symm)) (cwV 5 hts gX11_goesFrom_X11_meetsBox rfl rfl rfl (by decide +kernel) ⟨Nat.le_of_ble_eq_true rfl, Nat.le_of_ble_eq_true rfl⟩) ⟨fun a U g mk q => by obtain ⟨q0, q1, qP, qK, qD⟩ := q; exact ⟨q0, q1, qP, va_K.moved (u := U) (U := U.calling g mk a) (Vm.Alike.refl U.vm) qK, qD⟩, va_recv hK hP (ci := 11) (q0 := 3) rfl rfl, fun U hU hW => ⟨rfl, by rw [hU], by rw [hU]; exact hPc, va_K.moved hW.alike hK, hDc.weaken (fun _ _ _ _ => trivial)⟩⟩ rfl rfl hl.1 rfl (lv_room (Nat.le_of_ble_eq_true rfl)) dX11_goesFrom_107 ⟨Nat.le_of_ble_eq_true rfl, Nat.le_of_ble_eq_true rfl⟩) hS (fun q _ h => hFc q h) hFc (fun u t H1 locs ht hvm hw hB hz1 hk1 hS => ?_)
          obtain ⟨g_131, g_132, g_133, h_134, hP1, hK1, hD1⟩ := hB
          rw [ht] at hP1
          obtain ⟨hP, hD⟩ := va_join (wr := [(m_next, .inl (cI, 3, (.inl g_120)))]) (w1 := [(m0, .inr (11, [.int 0, .ref m_tape, .int 0, .int 0, .int 0, .ref m_read, .int 0, .int 0, .int 0, .ref m_tets, .int 0, .int 0, .int 0, .int 0, .int 0, .int 0, .int 0, .int 0, .ref m_primes, .ref m_often, .ref m_normal, .ref m_termM, .ref m_termP, .ref m_termV, .ref m_sumFrom, .ref m_sumMany, .int 0, .int 0, .int 0, .int 0, .ref m_part, .ref m_fair, .ref m_heap, .ref m_pickTet, .ref m_pickEdge, .ref m_base, .ref m_baseM, .ref m_baseP, .ref m_rowsOf, .int 0, .ref m_grid, .ref m_times, .ref m_boxes, .ref m_cameFrom, .ref m_cameBy, .ref m_steps, .ref m_sides, .int (nI (q_see P k (d + 1) (bx_mk (u0 / n * (n - 1)) u1 (u2 / (n - 1) * n))).length), .int (-1), .ref m_next, .ref m_cube, .ref m_ways])), (m_boxes, .inl (cI, 3600, (.inl g_131))), (m_cameFrom, .inl (cI, 1200, (.inl g_132))), (m_cameBy, .inl (cI, 1200, (.inl g_133)))]) hP hD [3, 0, 1, 2] [4] rfl rfl (by decide) (by decide) hk1 hFc hP1 hD1
          generalize H1 = H at hP hS ⊢
          have hP : va_P (dC, dI) vwCl [(m_next, .inl (cI, 3, (.inl g_120))), (m0, .inr (11, [.int 0, .ref m_tape, .int 0, .int 0, .int 0, .ref m_read, .int 0, .int 0, .int 0, .ref m_tets, .int 0, .int 0, .int 0, .int 0, .int 0, .int 0, .int 0, .int 0, .ref m_primes, .ref m_often, .ref m_normal, .ref m_termM, .ref m_termP, .ref m_termV, .ref m_sumFrom, .ref m_sumMany, .int 0, .int 0, .int 0, .int 0, .ref m_part, .ref m_fair, .ref m_heap, .ref m_pickTet, .ref m_pickEdge, .ref m_base, .ref m_baseM, .ref m_baseP, .ref m_rowsOf, .int 0, .ref m_grid, .ref m_times, .ref m_boxes, .ref m_cameFrom, .ref m_cameBy, .ref m_steps, .ref m_sides, .int (nI (q_see P k (d + 1) (bx_mk (u0 / n * (n - 1)) u1 (u2 / (n - 1) * n))).length), .int (-1), .ref m_next, .ref m_cube, .ref m_ways])), (m_boxes, .inl (cI, 3600, (.inl g_131))), (m_cameFrom, .inl (cI, 1200, (.inl g_132))), (m_cameBy, .inl (cI, 1200, (.inl g_133)))] H := hP
          have hD : va_D A [(m_next, .inl (cI, 3, (.inl g_120))), (m0, .inr (11, [.int 0, .ref m_tape, .int 0, .int 0, .int 0, .ref m_read, .int 0, .int 0, .int 0, .ref m_tets, .int 0, .int 0, .int 0, .int 0, .int 0, .int 0, .int 0, .int 0, .ref m_primes, .ref m_often, .ref m_normal, .ref m_termM, .ref m_termP, .ref m_termV, .ref m_sumFrom, .ref m_sumMany, .int 0, .int 0, .int 0, .int 0, .ref m_part, .ref m_fair, .ref m_heap, .ref m_pickTet, .ref m_pickEdge, .ref m_base, .ref m_baseM, .ref m_baseP, .ref m_rowsOf, .int 0, .ref m_grid, .ref m_times, .ref m_boxes, .ref m_cameFrom, .ref m_cameBy, .ref m_steps, .ref m_sides, .int (nI (q_see P k (d + 1) (bx_mk (u0 / n * (n - 1)) u1 (u2 / (n - 1) * n))).length), .int (-1), .ref m_next, .ref m_cube, .ref m_ways])), (m_boxes, .inl (cI, 3600, (.inl g_131))), (m_cameFrom, .inl (cI, 1200, (.inl g_132))), (m_cameBy, .inl (cI, 1200, (.inl g_133)))] := hD
          have hPT : q_sees k (d + 1) (nb_n u0 u1 u2 0 2 (25 - (n + 1)) (n + 1) ++ (nb_n u0 u1 u2 1 0 23 2 ++ (nb_n u0 u1 u2 1 2 23 2 ++ (nb_n u0 u1 u2 2 0 23 2 ++ (nb_n u0 u1 u2 2 1 23 2 ++ []))))) (q_see P k (d + 1) (bx_mk (u0 / n * (n - 1)) u1 (u2 / (n - 1) * n))) = T := hPT
          obtain ⟨x_135, ex_135⟩ : ∃ y : Int32, y = (nI n) + 1 := ⟨_, rfl⟩
          refine lv_iinc (v := x_135) (lv' := [(4, .int x_135), (5, .int 3), (0, .ref m0), (1, .int (nI k)), (2, .int 0), (3, .int 2)]) hx hb dX11_goesFrom_110 hl (k := 5) rfl (by rw [ex_135]; rfl) (by decide) rfl (fun ls hl => ?_)
          obtain rfl : x_135 = nI (n + 1) := ex_135.trans (nI_1 n)
          have hl : lv_has ls 6 [(4, .int (nI (n + 1))), (5, .int 3), (0, .ref m0), (1, .int (nI k)), (2, .int 0), (3, .int 2)] := hl
          refine lv_goto (tgt := 17) hx hb dX11_goesFrom_113 (by decide) ?_
          exact out _ _ _ (ih02 (n + 1) _ _ _ _ _ (by omega) (by omega) (by omega) (q_pre_at (q_see_pre P k (d + 1) (bx_mk (u0 / n * (n - 1)) u1 (u2 / (n - 1) * n))) hP0) (q_in_add hPI hgo) h_134 hPT _ _ (hP.sub [1, 2, 3, 4, 0] rfl) (hD.sub [1, 2, 3, 4, 0] (by decide) rfl) hS ls (lv_sub hl [2, 3, 4, 5, 0] rfl))
  have loop01 : ∀ (f01 : Nat) (n : Nat) (P : List qE) (gb : Nat → Int32) (gc : Nat → Int32) (gd : Nat → Int32) (gn : Nat → Int32) (h5 : n + f01 = 26) (h6 : 2 ≤ n) (h7 : n ≤ 25) (hP0 : P[k]? = some (bx_mk u0 u1 u2, pk, d)) (hPI : q_in V P) (hPR : RR P gb gc) (hPT : q_sees k (d + 1) (nb_n u0 u1 u2 0 1 (25 - n) n ++ (nb_n u0 u1 u2 0 2 23 2 ++ (nb_n u0 u1 u2 1 0 23 2 ++ (nb_n u0 u1 u2 1 2 23 2 ++ (nb_n u0 u1 u2 2 0 23 2 ++ (nb_n u0 u1 u2 2 1 23 2 ++ [])))))) P = T) (H : Heap) (locs : List Loc) (_ : va_P (dC, dI) vwCl [(m0, .inr (11, [.int 0, .ref m_tape, .int 0, .int 0, .int 0, .ref m_read, .int 0, .int 0, .int 0, .ref m_tets, .int 0, .int 0, .int 0, .int 0, .int 0, .int 0, .int 0, .int 0, .ref m_primes, .ref m_often, .ref m_normal, .ref m_termM, .ref m_termP, .ref m_termV, .ref m_sumFrom, .ref m_sumMany, .int 0, .int 0, .int 0, .int 0, .ref m_part, .ref m_fair, .ref m_heap, .ref m_pickTet, .ref m_pickEdge, .ref m_base, .ref m_baseM, .ref m_baseP, .ref m_rowsOf, .int 0, .ref m_grid, .ref m_times, .ref m_boxes, .ref m_cameFrom, .ref m_cameBy, .ref m_steps, .ref m_sides, .int (nI P.length), .int (-1), .ref m_next, .ref m_cube, .ref m_ways])), (m_boxes, .inl (cI, 3600, (.inl gb))), (m_cameFrom, .inl (cI, 1200, (.inl gc))), (m_cameBy, .inl (cI, 1200, (.inl gd))), (m_next, .inl (cI, 3, (.inl gn)))] H) (_ : va_D A [(m0, .inr (11, [.int 0, .ref m_tape, .int 0, .int 0, .int 0, .ref m_read, .int 0, .int 0, .int 0, .ref m_tets, .int 0, .int 0, .int 0, .int 0, .int 0, .int 0, .int 0, .int 0, .ref m_primes, .ref m_often, .ref m_normal, .ref m_termM, .ref m_termP, .ref m_termV, .ref m_sumFrom, .ref m_sumMany, .int 0, .int 0, .int 0, .int 0, .ref m_part, .ref m_fair, .ref m_heap, .ref m_pickTet, .ref m_pickEdge, .ref m_base, .ref m_baseM, .ref m_baseP, .ref m_rowsOf, .int 0, .ref m_grid, .ref m_times, .ref m_boxes, .ref m_cameFrom, .ref m_cameBy, .ref m_steps, .ref m_sides, .int (nI P.length), .int (-1), .ref m_next, .ref m_cube, .ref m_ways])), (m_boxes, .inl (cI, 3600, (.inl gb))), (m_cameFrom, .inl (cI, 1200, (.inl gc))), (m_cameBy, .inl (cI, 1200, (.inl gd))), (m_next, .inl (cI, 3, (.inl gn)))]) (_ : va_S A s.heap H locs) (ls : Array Slot) (_ : lv_has ls 6 [(0, .ref m0), (1, .int (nI k)), (2, .int 0), (3, .int 1), (4, .int (nI n))]), G H locs (F0 m 17 ls []) := by
    intro f01
    induction f01 with
    | zero =>
      intro n P gb gc gd gn h5 h6 h7 hP0 hPI hPR hPT H locs hP hD hS ls hl
      exfalso; omega
    | succ f01 ih01 =>
      intro n P gb gc gd gn h5 h6 h7 hP0 hPI hPR hPT H locs hP hD hS ls hl
      refine inn _ _ _ ?_
      have hPl : P.length ≤ 96 := Nat.le_trans (q_pre_len (hPT ▸ q_sees_pre k (d + 1) (nb_n u0 u1 u2 0 1 (25 - n) n ++ (nb_n u0 u1 u2 0 2 23 2 ++ (nb_n u0 u1 u2 1 0 23 2 ++ (nb_n u0 u1 u2 1 2 23 2 ++ (nb_n u0 u1 u2 2 0 23 2 ++ (nb_n u0 u1 u2 2 1 23 2 ++ [])))))) P)) hTl
      have hkl := q_lt hP0
      refine lv_iload hx hb dX11_goesFrom_17 (lv_at hl 4 rfl) ?_
      refine lv_bipush (v := 24) hx hb dX11_goesFrom_19 (by decide) ?_
      refine lv_icmp_gt (tgt := 116) hx hb dX11_goesFrom_21 (by decide) (fun c_136 => ?_) (fun c_136 => ?_)
      · have c_136 : 24 < n := (nI_ltI (a := 24) (b := n) (by omega) (by omega)).mp c_136
        have hPT : q_sees k (d + 1) (nb_n u0 u1 u2 0 2 23 2 ++ (nb_n u0 u1 u2 1 0 23 2 ++ (nb_n u0 u1 u2 1 2 23 2 ++ (nb_n u0 u1 u2 2 0 23 2 ++ (nb_n u0 u1 u2 2 1 23 2 ++ []))))) P = T := by
          rw [show 25 - n = 0 by omega] at hPT
          exact hPT
        refine lv_iinc (v := 2) (lv' := [(3, .int 2), (0, .ref m0), (1, .int (nI k)), (2, .int 0), (4, .int (nI n))]) hx hb dX11_goesFrom_116 hl (k := 3) rfl (by decide) (by decide) rfl (fun ls hl => ?_)
        refine lv_goto (tgt := 9) hx hb dX11_goesFrom_119 (by decide) ?_
        refine lv_iload_n hx hb dX11_goesFrom_9 rfl (lv_at hl 0 rfl) ?_
        refine lv_iconst (v := 3) hx hb dX11_goesFrom_10 (by decide) ?_
        refine lv_icmp_ge (tgt := 122) hx hb dX11_goesFrom_11 (by decide) (fun c => absurd c (by decide)) (fun _ => ?_)
        refine lv_iconst (v := 2) hx hb dX11_goesFrom_14 (by decide) ?_
        refine lv_istore (lv' := [(4, .int 2), (3, .int 2), (0, .ref m0), (1, .int (nI k)), (2, .int 0)]) hx hb dX11_goesFrom_15 hl (by decide) rfl (fun ls hl => ?_)
        exact out _ _ _ (loop02 24 2 P gb gc gd _ rfl (by omega) (by omega) hP0 hPI hPR hPT _ _ (hP.sub [0, 1, 2, 3, 4] rfl) (hD.sub [0, 1, 2, 3, 4] (by decide) rfl) hS ls (lv_sub hl [2, 3, 4, 1, 0] rfl))
      · have c_136 : ¬ 24 < n := fun q9 => c_136 ((nI_ltI (a := 24) (b := n) (by omega) (by omega)).mpr q9)
        rw [show 25 - n = (25 - (n + 1)) + 1 by omega] at hPT
        refine lv_iload_n hx hb dX11_goesFrom_24 rfl (lv_at hl 2 rfl) ?_
        refine lv_iload_n hx hb dX11_goesFrom_25 rfl (lv_at hl 3 rfl) ?_
        refine lv_icmp_eq (tgt := 116) hx hb dX11_goesFrom_26 (by decide) (fun c => absurd c (by decide)) (fun _ => ?_)
        refine lv_iconst (v := 0) hx hb dX11_goesFrom_29 (by decide) ?_
        refine lv_istore (lv' := [(5, .int 0), (0, .ref m0), (1, .int (nI k)), (2, .int 0), (3, .int 1), (4, .int (nI n))]) hx hb dX11_goesFrom_30 hl (by decide) rfl (fun ls hl => ?_)
        refine lv_iload hx hb dX11_goesFrom_32 (lv_at hl 0 rfl) ?_
        refine lv_iconst (v := 3) hx hb dX11_goesFrom_34 (by decide) ?_
        refine lv_icmp_ge (tgt := 62) hx hb dX11_goesFrom_35 (by decide) (fun c => absurd c (by decide)) (fun _ => ?_)
        refine lv_aload_n hx hb dX11_goesFrom_38 rfl (lv_at hl 1 rfl) ?_
        refine va_get (D := (dC, dI)) (ci := 11) (v := .ref m_next) (C := RX11) (T := TX11) (N := 52) hx hb hts hiX11 hown hK hP 0 rfl rfl 49 (by decide) (hts (.fieldLink RX11 97 "ScissorsTableModel" "next" "[I") (by decide +kernel)) (fun _ h9 => h9) rfl dX11_goesFrom_39 ?_
        refine lv_iload hx hb dX11_goesFrom_42 (lv_at hl 0 rfl) ?_
        refine lv_aload_n hx hb dX11_goesFrom_44 rfl (lv_at hl 1 rfl) ?_
        refine va_get (D := (dC, dI)) (ci := 11) (v := .ref m_boxes) (C := RX11) (T := TX11) (N := 52) hx hb hts hiX11 hown hK hP 0 rfl rfl 42 (by decide) (hts (.fieldLink RX11 78 "ScissorsTableModel" "boxes" "[I") (by decide +kernel)) (fun _ h9 => h9) rfl dX11_goesFrom_45 ?_
        refine lv_iconst (v := 3) hx hb dX11_goesFrom_48 (by decide) ?_
        refine lv_iload_n hx hb dX11_goesFrom_49 rfl (lv_at hl 2 rfl) ?_
        refine lv_imul hx hb dX11_goesFrom_50 ?_
        refine lv_topi (fun x_137 ex_137 => ?_)
        obtain rfl : x_137 = nI (3 * k) := ex_137.trans (pk_mul 3 k)
        refine lv_iload hx hb dX11_goesFrom_51 (lv_at hl 0 rfl) ?_
        refine lv_iadd hx hb dX11_goesFrom_53 ?_
        refine lv_topi (fun x_138 ex_138 => ?_)
        obtain rfl : x_138 = nI ((3 * k) + 0) := ex_138.trans (nI_add (3 * k) 0)
        refine va_iald hx hb hK hP 1 1 rfl rfl (vp_in_nI (by omega) (by decide)) dX11_goesFrom_54 ?_
        refine lv_topi (fun x_139 ex_139 => ?_)
        rw [nI_clamp (show (3 * k) + 0 < 2 ^ 31 by omega)] at ex_139
        obtain rfl : x_139 = nI u0 := ex_139.trans ((hPR k _ hP0).1.trans (congrArg nI (bx_x (by omega) (by omega))))
        refine va_iast hx hb hK hP hD hS 4 1 rfl rfl (by show ¬ (_ ∨ _); decide) dX11_goesFrom_55 (fun H locs hP hD hS => ?_)
        rw [show (0 : Int32).toNatClampNeg = 0 from rfl] at hP hD
        have hP : va_P (dC, dI) vwCl [(m0, .inr (11, [.int 0, .ref m_tape, .int 0, .int 0, .int 0, .ref m_read, .int 0, .int 0, .int 0, .ref m_tets, .int 0, .int 0, .int 0, .int 0, .int 0, .int 0, .int 0, .int 0, .ref m_primes, .ref m_often, .ref m_normal, .ref m_termM, .ref m_termP, .ref m_termV, .ref m_sumFrom, .ref m_sumMany, .int 0, .int 0, .int 0, .int 0, .ref m_part, .ref m_fair, .ref m_heap, .ref m_pickTet, .ref m_pickEdge, .ref m_base, .ref m_baseM, .ref m_baseP, .ref m_rowsOf, .int 0, .ref m_grid, .ref m_times, .ref m_boxes, .ref m_cameFrom, .ref m_cameBy, .ref m_steps, .ref m_sides, .int (nI P.length), .int (-1), .ref m_next, .ref m_cube, .ref m_ways])), (m_boxes, .inl (cI, 3600, (.inl gb))), (m_cameFrom, .inl (cI, 1200, (.inl gc))), (m_cameBy, .inl (cI, 1200, (.inl gd))), (m_next, .inl (cI, 3, (.inl (upd gn 0 (nI u0)))))] H := hP
        have hD : va_D A [(m0, .inr (11, [.int 0, .ref m_tape, .int 0, .int 0, .int 0, .ref m_read, .int 0, .int 0, .int 0, .ref m_tets, .int 0, .int 0, .int 0, .int 0, .int 0, .int 0, .int 0, .int 0, .ref m_primes, .ref m_often, .ref m_normal, .ref m_termM, .ref m_termP, .ref m_termV, .ref m_sumFrom, .ref m_sumMany, .int 0, .int 0, .int 0, .int 0, .ref m_part, .ref m_fair, .ref m_heap, .ref m_pickTet, .ref m_pickEdge, .ref m_base, .ref m_baseM, .ref m_baseP, .ref m_rowsOf, .int 0, .ref m_grid, .ref m_times, .ref m_boxes, .ref m_cameFrom, .ref m_cameBy, .ref m_steps, .ref m_sides, .int (nI P.length), .int (-1), .ref m_next, .ref m_cube, .ref m_ways])), (m_boxes, .inl (cI, 3600, (.inl gb))), (m_cameFrom, .inl (cI, 1200, (.inl gc))), (m_cameBy, .inl (cI, 1200, (.inl gd))), (m_next, .inl (cI, 3, (.inl (upd gn 0 (nI u0)))))] := hD
        refine lv_iinc (v := 1) (lv' := [(5, .int 1), (0, .ref m0), (1, .int (nI k)), (2, .int 0), (3, .int 1), (4, .int (nI n))]) hx hb dX11_goesFrom_56 hl (k := 0) rfl (by decide) (by decide) rfl (fun ls hl => ?_)
        refine lv_goto (tgt := 32) hx hb dX11_goesFrom_59 (by decide) ?_
        refine lv_iload hx hb dX11_goesFrom_32 (lv_at hl 0 rfl) ?_
        refine lv_iconst (v := 3) hx hb dX11_goesFrom_34 (by decide) ?_
        refine lv_icmp_ge (tgt := 62) hx hb dX11_goesFrom_35 (by decide) (fun c => absurd c (by decide)) (fun _ => ?_)
        refine lv_aload_n hx hb dX11_goesFrom_38 rfl (lv_at hl 1 rfl) ?_
        refine va_get (D := (dC, dI)) (ci := 11) (v := .ref m_next) (C := RX11) (T := TX11) (N := 52) hx hb hts hiX11 hown hK hP 0 rfl rfl 49 (by decide) (hts (.fieldLink RX11 97 "ScissorsTableModel" "next" "[I") (by decide +kernel)) (fun _ h9 => h9) rfl dX11_goesFrom_39 ?_
        refine lv_iload hx hb dX11_goesFrom_42 (lv_at hl 0 rfl) ?_
        refine lv_aload_n hx hb dX11_goesFrom_44 rfl (lv_at hl 1 rfl) ?_
        refine va_get (D := (dC, dI)) (ci := 11) (v := .ref m_boxes) (C := RX11) (T := TX11) (N := 52) hx hb hts hiX11 hown hK hP 0 rfl rfl 42 (by decide) (hts (.fieldLink RX11 78 "ScissorsTableModel" "boxes" "[I") (by decide +kernel)) (fun _ h9 => h9) rfl dX11_goesFrom_45 ?_
        refine lv_iconst (v := 3) hx hb dX11_goesFrom_48 (by decide) ?_
        refine lv_iload_n hx hb dX11_goesFrom_49 rfl (lv_at hl 2 rfl) ?_
        refine lv_imul hx hb dX11_goesFrom_50 ?_
        refine lv_topi (fun x_140 ex_140 => ?_)
        obtain rfl : x_140 = nI (3 * k) := ex_140.trans (pk_mul 3 k)
        refine lv_iload hx hb dX11_goesFrom_51 (lv_at hl 0 rfl) ?_
        refine lv_iadd hx hb dX11_goesFrom_53 ?_
        refine lv_topi (fun x_141 ex_141 => ?_)
        obtain rfl : x_141 = nI ((3 * k) + 1) := ex_141.trans (nI_add (3 * k) 1)
        refine va_iald hx hb hK hP 1 1 rfl rfl (vp_in_nI (by omega) (by decide)) dX11_goesFrom_54 ?_
        refine lv_topi (fun x_142 ex_142 => ?_)
        rw [nI_clamp (show (3 * k) + 1 < 2 ^ 31 by omega)] at ex_142
        obtain rfl : x_142 = nI u1 := ex_142.trans ((hPR k _ hP0).2.1.trans (congrArg nI (bx_y (by omega) (by omega))))
        refine va_iast hx hb hK hP hD hS 4 1 rfl rfl (by show ¬ (_ ∨ _); decide) dX11_goesFrom_55 (fun H locs hP hD hS => ?_)
        rw [show (1 : Int32).toNatClampNeg = 1 from rfl] at hP hD
        have hP : va_P (dC, dI) vwCl [(m0, .inr (11, [.int 0, .ref m_tape, .int 0, .int 0, .int 0, .ref m_read, .int 0, .int 0, .int 0, .ref m_tets, .int 0, .int 0, .int 0, .int 0, .int 0, .int 0, .int 0, .int 0, .ref m_primes, .ref m_often, .ref m_normal, .ref m_termM, .ref m_termP, .ref m_termV, .ref m_sumFrom, .ref m_sumMany, .int 0, .int 0, .int 0, .int 0, .ref m_part, .ref m_fair, .ref m_heap, .ref m_pickTet, .ref m_pickEdge, .ref m_base, .ref m_baseM, .ref m_baseP, .ref m_rowsOf, .int 0, .ref m_grid, .ref m_times, .ref m_boxes, .ref m_cameFrom, .ref m_cameBy, .ref m_steps, .ref m_sides, .int (nI P.length), .int (-1), .ref m_next, .ref m_cube, .ref m_ways])), (m_boxes, .inl (cI, 3600, (.inl gb))), (m_cameFrom, .inl (cI, 1200, (.inl gc))), (m_cameBy, .inl (cI, 1200, (.inl gd))), (m_next, .inl (cI, 3, (.inl (upd (upd gn 0 (nI u0)) 1 (nI u1)))))] H := hP
        have hD : va_D A [(m0, .inr (11, [.int 0, .ref m_tape, .int 0, .int 0, .int 0, .ref m_read, .int 0, .int 0, .int 0, .ref m_tets, .int 0, .int 0, .int 0, .int 0, .int 0, .int 0, .int 0, .int 0, .ref m_primes, .ref m_often, .ref m_normal, .ref m_termM, .ref m_termP, .ref m_termV, .ref m_sumFrom, .ref m_sumMany, .int 0, .int 0, .int 0, .int 0, .ref m_part, .ref m_fair, .ref m_heap, .ref m_pickTet, .ref m_pickEdge, .ref m_base, .ref m_baseM, .ref m_baseP, .ref m_rowsOf, .int 0, .ref m_grid, .ref m_times, .ref m_boxes, .ref m_cameFrom, .ref m_cameBy, .ref m_steps, .ref m_sides, .int (nI P.length), .int (-1), .ref m_next, .ref m_cube, .ref m_ways])), (m_boxes, .inl (cI, 3600, (.inl gb))), (m_cameFrom, .inl (cI, 1200, (.inl gc))), (m_cameBy, .inl (cI, 1200, (.inl gd))), (m_next, .inl (cI, 3, (.inl (upd (upd gn 0 (nI u0)) 1 (nI u1)))))] := hD
        refine lv_iinc (v := 2) (lv' := [(5, .int 2), (0, .ref m0), (1, .int (nI k)), (2, .int 0), (3, .int 1), (4, .int (nI n))]) hx hb dX11_goesFrom_56 hl (k := 0) rfl (by decide) (by decide) rfl (fun ls hl => ?_)
        refine lv_goto (tgt := 32) hx hb dX11_goesFrom_59 (by decide) ?_
        refine lv_iload hx hb dX11_goesFrom_32 (lv_at hl 0 rfl) ?_
        refine lv_iconst (v := 3) hx hb dX11_goesFrom_34 (by decide) ?_
        refine lv_icmp_ge (tgt := 62) hx hb dX11_goesFrom_35 (by decide) (fun c => absurd c (by decide)) (fun _ => ?_)
        refine lv_aload_n hx hb dX11_goesFrom_38 rfl (lv_at hl 1 rfl) ?_
        refine va_get (D := (dC, dI)) (ci := 11) (v := .ref m_next) (C := RX11) (T := TX11) (N := 52) hx hb hts hiX11 hown hK hP 0 rfl rfl 49 (by decide) (hts (.fieldLink RX11 97 "ScissorsTableModel" "next" "[I") (by decide +kernel)) (fun _ h9 => h9) rfl dX11_goesFrom_39 ?_
        refine lv_iload hx hb dX11_goesFrom_42 (lv_at hl 0 rfl) ?_
        refine lv_aload_n hx hb dX11_goesFrom_44 rfl (lv_at hl 1 rfl) ?_
        refine va_get (D := (dC, dI)) (ci := 11) (v := .ref m_boxes) (C := RX11) (T := TX11) (N := 52) hx hb hts hiX11 hown hK hP 0 rfl rfl 42 (by decide) (hts (.fieldLink RX11 78 "ScissorsTableModel" "boxes" "[I") (by decide +kernel)) (fun _ h9 => h9) rfl dX11_goesFrom_45 ?_
        refine lv_iconst (v := 3) hx hb dX11_goesFrom_48 (by decide) ?_
        refine lv_iload_n hx hb dX11_goesFrom_49 rfl (lv_at hl 2 rfl) ?_
        refine lv_imul hx hb dX11_goesFrom_50 ?_
        refine lv_topi (fun x_143 ex_143 => ?_)
        obtain rfl : x_143 = nI (3 * k) := ex_143.trans (pk_mul 3 k)
        refine lv_iload hx hb dX11_goesFrom_51 (lv_at hl 0 rfl) ?_
        refine lv_iadd hx hb dX11_goesFrom_53 ?_
        refine lv_topi (fun x_144 ex_144 => ?_)
        obtain rfl : x_144 = nI ((3 * k) + 2) := ex_144.trans (nI_add (3 * k) 2)
        refine va_iald hx hb hK hP 1 1 rfl rfl (vp_in_nI (by omega) (by decide)) dX11_goesFrom_54 ?_
        refine lv_topi (fun x_145 ex_145 => ?_)
        rw [nI_clamp (show (3 * k) + 2 < 2 ^ 31 by omega)] at ex_145
        obtain rfl : x_145 = nI u2 := ex_145.trans ((hPR k _ hP0).2.2.1.trans (congrArg nI (bx_z (by omega))))
        refine va_iast hx hb hK hP hD hS 4 1 rfl rfl (by show ¬ (_ ∨ _); decide) dX11_goesFrom_55 (fun H locs hP hD hS => ?_)
        rw [show (2 : Int32).toNatClampNeg = 2 from rfl] at hP hD
        have hP : va_P (dC, dI) vwCl [(m0, .inr (11, [.int 0, .ref m_tape, .int 0, .int 0, .int 0, .ref m_read, .int 0, .int 0, .int 0, .ref m_tets, .int 0, .int 0, .int 0, .int 0, .int 0, .int 0, .int 0, .int 0, .ref m_primes, .ref m_often, .ref m_normal, .ref m_termM, .ref m_termP, .ref m_termV, .ref m_sumFrom, .ref m_sumMany, .int 0, .int 0, .int 0, .int 0, .ref m_part, .ref m_fair, .ref m_heap, .ref m_pickTet, .ref m_pickEdge, .ref m_base, .ref m_baseM, .ref m_baseP, .ref m_rowsOf, .int 0, .ref m_grid, .ref m_times, .ref m_boxes, .ref m_cameFrom, .ref m_cameBy, .ref m_steps, .ref m_sides, .int (nI P.length), .int (-1), .ref m_next, .ref m_cube, .ref m_ways])), (m_boxes, .inl (cI, 3600, (.inl gb))), (m_cameFrom, .inl (cI, 1200, (.inl gc))), (m_cameBy, .inl (cI, 1200, (.inl gd))), (m_next, .inl (cI, 3, (.inl (upd (upd (upd gn 0 (nI u0)) 1 (nI u1)) 2 (nI u2)))))] H := hP
        have hD : va_D A [(m0, .inr (11, [.int 0, .ref m_tape, .int 0, .int 0, .int 0, .ref m_read, .int 0, .int 0, .int 0, .ref m_tets, .int 0, .int 0, .int 0, .int 0, .int 0, .int 0, .int 0, .int 0, .ref m_primes, .ref m_often, .ref m_normal, .ref m_termM, .ref m_termP, .ref m_termV, .ref m_sumFrom, .ref m_sumMany, .int 0, .int 0, .int 0, .int 0, .ref m_part, .ref m_fair, .ref m_heap, .ref m_pickTet, .ref m_pickEdge, .ref m_base, .ref m_baseM, .ref m_baseP, .ref m_rowsOf, .int 0, .ref m_grid, .ref m_times, .ref m_boxes, .ref m_cameFrom, .ref m_cameBy, .ref m_steps, .ref m_sides, .int (nI P.length), .int (-1), .ref m_next, .ref m_cube, .ref m_ways])), (m_boxes, .inl (cI, 3600, (.inl gb))), (m_cameFrom, .inl (cI, 1200, (.inl gc))), (m_cameBy, .inl (cI, 1200, (.inl gd))), (m_next, .inl (cI, 3, (.inl (upd (upd (upd gn 0 (nI u0)) 1 (nI u1)) 2 (nI u2)))))] := hD
        refine lv_iinc (v := 3) (lv' := [(5, .int 3), (0, .ref m0), (1, .int (nI k)), (2, .int 0), (3, .int 1), (4, .int (nI n))]) hx hb dX11_goesFrom_56 hl (k := 0) rfl (by decide) (by decide) rfl (fun ls hl => ?_)
        refine lv_goto (tgt := 32) hx hb dX11_goesFrom_59 (by decide) ?_
        refine lv_iload hx hb dX11_goesFrom_32 (lv_at hl 0 rfl) ?_
        refine lv_iconst (v := 3) hx hb dX11_goesFrom_34 (by decide) ?_
        refine lv_icmp_ge (tgt := 62) hx hb dX11_goesFrom_35 (by decide) (fun _ => ?_) (fun c => absurd (by decide) c)
        refine lv_aload_n hx hb dX11_goesFrom_62 rfl (lv_at hl 1 rfl) ?_
        refine lv_iload_n hx hb dX11_goesFrom_63 rfl (lv_at hl 3 rfl) ?_
        refine lv_iload_n hx hb dX11_goesFrom_64 rfl (lv_at hl 4 rfl) ?_
        refine lv_iload hx hb dX11_goesFrom_65 (lv_at hl 5 rfl) ?_
        have hPc := hP.sub (ws' := [(m0, .inr (11, [.int 0, .ref m_tape, .int 0, .int 0, .int 0, .ref m_read, .int 0, .int 0, .int 0, .ref m_tets, .int 0, .int 0, .int 0, .int 0, .int 0, .int 0, .int 0, .int 0, .ref m_primes, .ref m_often, .ref m_normal, .ref m_termM, .ref m_termP, .ref m_termV, .ref m_sumFrom, .ref m_sumMany, .int 0, .int 0, .int 0, .int 0, .ref m_part, .ref m_fair, .ref m_heap, .ref m_pickTet, .ref m_pickEdge, .ref m_base, .ref m_baseM, .ref m_baseP, .ref m_rowsOf, .int 0, .ref m_grid, .ref m_times, .ref m_boxes, .ref m_cameFrom, .ref m_cameBy, .ref m_steps, .ref m_sides, .int (nI P.length), .int (-1), .ref m_next, .ref m_cube, .ref m_ways])), (m_next, .inl (cI, 3, (.inl (upd (upd (upd gn 0 (nI u0)) 1 (nI u1)) 2 (nI u2)))))]) [0, 4] rfl
        have hDc := hD.sub (ws' := [(m0, .inr (11, [.int 0, .ref m_tape, .int 0, .int 0, .int 0, .ref m_read, .int 0, .int 0, .int 0, .ref m_tets, .int 0, .int 0, .int 0, .int 0, .int 0, .int 0, .int 0, .int 0, .ref m_primes, .ref m_often, .ref m_normal, .ref m_termM, .ref m_termP, .ref m_termV, .ref m_sumFrom, .ref m_sumMany, .int 0, .int 0, .int 0, .int 0, .ref m_part, .ref m_fair, .ref m_heap, .ref m_pickTet, .ref m_pickEdge, .ref m_base, .ref m_baseM, .ref m_baseP, .ref m_rowsOf, .int 0, .ref m_grid, .ref m_times, .ref m_boxes, .ref m_cameFrom, .ref m_cameBy, .ref m_steps, .ref m_sides, .int (nI P.length), .int (-1), .ref m_next, .ref m_cube, .ref m_ways])), (m_next, .inl (cI, 3, (.inl (upd (upd (upd gn 0 (nI u0)) 1 (nI u1)) 2 (nI u2)))))]) [0, 4] (by decide) rfl
        have hFc := va_free (wc := [(m0, .inr (11, [.int 0, .ref m_tape, .int 0, .int 0, .int 0, .ref m_read, .int 0, .int 0, .int 0, .ref m_tets, .int 0, .int 0, .int 0, .int 0, .int 0, .int 0, .int 0, .int 0, .ref m_primes, .ref m_often, .ref m_normal, .ref m_termM, .ref m_termP, .ref m_termV, .ref m_sumFrom, .ref m_sumMany, .int 0, .int 0, .int 0, .int 0, .ref m_part, .ref m_fair, .ref m_heap, .ref m_pickTet, .ref m_pickEdge, .ref m_base, .ref m_baseM, .ref m_baseP, .ref m_rowsOf, .int 0, .ref m_grid, .ref m_times, .ref m_boxes, .ref m_cameFrom, .ref m_cameBy, .ref m_steps, .ref m_sides, .int (nI P.length), .int (-1), .ref m_next, .ref m_cube, .ref m_ways])), (m_next, .inl (cI, 3, (.inl (upd (upd (upd gn 0 (nI u0)) 1 (nI u1)) 2 (nI u2)))))]) hD hS hA [0, 4] rfl
        refine va_calli (va_runV (As := [.int 0, .int 1, .int (nI n)]) (rest := []) ⟨hx, hb, hml, hown, hts⟩ (c_X11_goes__01 l dC dI cB cI cJ H.size m0 m_tape m_read m_tets m_primes m_often m_normal m_termM m_termP m_termV m_sumFrom m_sumMany m_part m_fair m_heap m_pickTet m_pickEdge m_base m_baseM m_baseP m_rowsOf m_grid m_times m_boxes m_cameFrom m_cameBy m_steps m_sides m_next m_cube m_ways (nI P.length) (upd (upd (upd gn 0 (nI u0)) 1 (nI u1)) 2 (nI u2)) u0 u1 u2 n hu (by omega) (⟨rfl, rfl, rfl⟩)) (cwV 3 hts gX11_goesFrom_X11_goes_ rfl rfl rfl (by decide +kernel) ⟨Nat.le_of_ble_eq_true rfl, Nat.le_of_ble_eq_true rfl⟩) ⟨fun a U g mk q => by obtain ⟨q0, q1, qP, qK, qD⟩ := q; exact ⟨q0, q1, qP, va_K.moved (u := U) (U := U.calling g mk a) (Vm.Alike.refl U.vm) qK, qD⟩, va_recv hK hP (ci := 11) (q0 := 0) rfl rfl, fun U hU hW => ⟨rfl, by rw [hU], by rw [hU]; exact hPc, va_K.moved hW.alike hK, hDc.weaken (fun _ _ _ _ => trivial)⟩⟩ rfl rfl hl.1 rfl (lv_room (Nat.le_of_ble_eq_true rfl)) dX11_goesFrom_67 ⟨Nat.le_of_ble_eq_true rfl, Nat.le_of_ble_eq_true rfl⟩) hS (fun q _ h => hFc q h) hFc (fun r_146 u t H1 locs ht hvm hw hB hz1 hk1 hS => ?_)
        obtain ⟨g_147, h_148, hP1, hK1, hD1⟩ := hB
        rw [ht] at hP1
        obtain ⟨hP, hD⟩ := va_join (wr := [(m_boxes, .inl (cI, 3600, (.inl gb))), (m_cameFrom, .inl (cI, 1200, (.inl gc))), (m_cameBy, .inl (cI, 1200, (.inl gd)))]) (w1 := [(m0, .inr (11, [.int 0, .ref m_tape, .int 0, .int 0, .int 0, .ref m_read, .int 0, .int 0, .int 0, .ref m_tets, .int 0, .int 0, .int 0, .int 0, .int 0, .int 0, .int 0, .int 0, .ref m_primes, .ref m_often, .ref m_normal, .ref m_termM, .ref m_termP, .ref m_termV, .ref m_sumFrom, .ref m_sumMany, .int 0, .int 0, .int 0, .int 0, .ref m_part, .ref m_fair, .ref m_heap, .ref m_pickTet, .ref m_pickEdge, .ref m_base, .ref m_baseM, .ref m_baseP, .ref m_rowsOf, .int 0, .ref m_grid, .ref m_times, .ref m_boxes, .ref m_cameFrom, .ref m_cameBy, .ref m_steps, .ref m_sides, .int (nI P.length), .int (-1), .ref m_next, .ref m_cube, .ref m_ways])), (m_next, .inl (cI, 3, (.inl g_147)))]) hP hD [0, 4] [1, 2, 3] rfl rfl (by decide) (by decide) hk1 hFc hP1 hD1
        generalize H1 = H at hP hS ⊢
        have hP : va_P (dC, dI) vwCl [(m_boxes, .inl (cI, 3600, (.inl gb))), (m_cameFrom, .inl (cI, 1200, (.inl gc))), (m_cameBy, .inl (cI, 1200, (.inl gd))), (m0, .inr (11, [.int 0, .ref m_tape, .int 0, .int 0, .int 0, .ref m_read, .int 0, .int 0, .int 0, .ref m_tets, .int 0, .int 0, .int 0, .int 0, .int 0, .int 0, .int 0, .int 0, .ref m_primes, .ref m_often, .ref m_normal, .ref m_termM, .ref m_termP, .ref m_termV, .ref m_sumFrom, .ref m_sumMany, .int 0, .int 0, .int 0, .int 0, .ref m_part, .ref m_fair, .ref m_heap, .ref m_pickTet, .ref m_pickEdge, .ref m_base, .ref m_baseM, .ref m_baseP, .ref m_rowsOf, .int 0, .ref m_grid, .ref m_times, .ref m_boxes, .ref m_cameFrom, .ref m_cameBy, .ref m_steps, .ref m_sides, .int (nI P.length), .int (-1), .ref m_next, .ref m_cube, .ref m_ways])), (m_next, .inl (cI, 3, (.inl g_147)))] H := hP
        have hD : va_D A [(m_boxes, .inl (cI, 3600, (.inl gb))), (m_cameFrom, .inl (cI, 1200, (.inl gc))), (m_cameBy, .inl (cI, 1200, (.inl gd))), (m0, .inr (11, [.int 0, .ref m_tape, .int 0, .int 0, .int 0, .ref m_read, .int 0, .int 0, .int 0, .ref m_tets, .int 0, .int 0, .int 0, .int 0, .int 0, .int 0, .int 0, .int 0, .ref m_primes, .ref m_often, .ref m_normal, .ref m_termM, .ref m_termP, .ref m_termV, .ref m_sumFrom, .ref m_sumMany, .int 0, .int 0, .int 0, .int 0, .ref m_part, .ref m_fair, .ref m_heap, .ref m_pickTet, .ref m_pickEdge, .ref m_base, .ref m_baseM, .ref m_baseP, .ref m_rowsOf, .int 0, .ref m_grid, .ref m_times, .ref m_boxes, .ref m_cameFrom, .ref m_cameBy, .ref m_steps, .ref m_sides, .int (nI P.length), .int (-1), .ref m_next, .ref m_cube, .ref m_ways])), (m_next, .inl (cI, 3, (.inl g_147)))] := hD
        have hr_146 := hw
        rcases hr_146 with ⟨rfl, hok⟩ | ⟨rfl, hok⟩
        · have hPT : q_sees k (d + 1) (nb_n u0 u1 u2 0 1 (25 - (n + 1)) (n + 1) ++ (nb_n u0 u1 u2 0 2 23 2 ++ (nb_n u0 u1 u2 1 0 23 2 ++ (nb_n u0 u1 u2 1 2 23 2 ++ (nb_n u0 u1 u2 2 0 23 2 ++ (nb_n u0 u1 u2 2 1 23 2 ++ [])))))) P = T := (congrArg (fun L9 => q_sees k (d + 1) (L9 ++ (nb_n u0 u1 u2 0 2 23 2 ++ (nb_n u0 u1 u2 1 0 23 2 ++ (nb_n u0 u1 u2 1 2 23 2 ++ (nb_n u0 u1 u2 2 0 23 2 ++ (nb_n u0 u1 u2 2 1 23 2 ++ [])))))) P) (nb_no (x := u0) (y := u1) (z := u2) (i := 0) (j := 1) (f := 25 - (n + 1)) (n := n) hok)).symm.trans hPT
          refine lv_if_eq (tgt := 110) hx hb dX11_goesFrom_70 (by decide) (fun _ => ?_) (fun c => absurd (by decide) c)
          obtain ⟨x_149, ex_149⟩ : ∃ y : Int32, y = (nI n) + 1 := ⟨_, rfl⟩
          refine lv_iinc (v := x_149) (lv' := [(4, .int x_149), (5, .int 3), (0, .ref m0), (1, .int (nI k)), (2, .int 0), (3, .int 1)]) hx hb dX11_goesFrom_110 hl (k := 5) rfl (by rw [ex_149]; rfl) (by decide) rfl (fun ls hl => ?_)
          obtain rfl : x_149 = nI (n + 1) := ex_149.trans (nI_1 n)
          have hl : lv_has ls 6 [(4, .int (nI (n + 1))), (5, .int 3), (0, .ref m0), (1, .int (nI k)), (2, .int 0), (3, .int 1)] := hl
          refine lv_goto (tgt := 17) hx hb dX11_goesFrom_113 (by decide) ?_
          exact out _ _ _ (ih01 (n + 1) P gb gc gd _ (by omega) (by omega) (by omega) hP0 hPI hPR hPT _ _ (hP.sub [3, 0, 1, 2, 4] rfl) (hD.sub [3, 0, 1, 2, 4] (by decide) rfl) hS ls (lv_sub hl [2, 3, 4, 5, 0] rfl))
        · have hPT : q_sees k (d + 1) ((st_go u0 u1 u2 0 1 n :: nb_n u0 u1 u2 0 1 (25 - (n + 1)) (n + 1)) ++ (nb_n u0 u1 u2 0 2 23 2 ++ (nb_n u0 u1 u2 1 0 23 2 ++ (nb_n u0 u1 u2 1 2 23 2 ++ (nb_n u0 u1 u2 2 0 23 2 ++ (nb_n u0 u1 u2 2 1 23 2 ++ [])))))) P = T := (congrArg (fun L9 => q_sees k (d + 1) (L9 ++ (nb_n u0 u1 u2 0 2 23 2 ++ (nb_n u0 u1 u2 1 0 23 2 ++ (nb_n u0 u1 u2 1 2 23 2 ++ (nb_n u0 u1 u2 2 0 23 2 ++ (nb_n u0 u1 u2 2 1 23 2 ++ [])))))) P) (nb_yes (x := u0) (y := u1) (z := u2) (i := 0) (j := 1) (f := 25 - (n + 1)) (n := n) hok)).symm.trans hPT
          have hgz := h_148 hok
          have o1 : u0 % n = 0 := hok.1
          have o2 : u1 % (n - 1) = 0 := hok.2.1
          have o3 : u1 / (n - 1) * n ≤ 24 := hok.2.2
          have l1 := st_lo h6 (show 1 ≤ u0 by omega) (show u0 ≤ 24 by omega) o1
          have l2 := st_hi h6 (show 1 ≤ u1 by omega) o2
          have hgo : bx_in V (st_go u0 u1 u2 0 1 n) := st_go_in hu.1 hu.2.1 hu.2.2 hV (by decide) (by decide) (by decide) h6 (st_ok_iff.mpr hok)
          refine lv_if_eq (tgt := 110) hx hb dX11_goesFrom_70 (by decide) (fun c => absurd c (by decide)) (fun _ => ?_)
          refine lv_aload_n hx hb dX11_goesFrom_73 rfl (lv_at hl 1 rfl) ?_
          refine lv_aload_n hx hb dX11_goesFrom_74 rfl (lv_at hl 1 rfl) ?_
          refine va_get (D := (dC, dI)) (ci := 11) (v := .ref m_next) (C := RX11) (T := TX11) (N := 52) hx hb hts hiX11 hown hK hP 3 rfl rfl 49 (by decide) (hts (.fieldLink RX11 97 "ScissorsTableModel" "next" "[I") (by decide +kernel)) (fun _ h9 => h9) rfl dX11_goesFrom_75 ?_
          refine lv_iconst (v := 0) hx hb dX11_goesFrom_78 (by decide) ?_
          refine va_iald hx hb hK hP 4 1 rfl rfl (by show ¬ (_ ∨ _); decide) dX11_goesFrom_79 ?_
          refine lv_topi (fun x_150 ex_150 => ?_)
          have ex_150 : x_150 = g_147 0 := ex_150
          obtain rfl : x_150 = nI (u0 / n * (n - 1)) := ex_150.trans hgz.1
          refine lv_aload_n hx hb dX11_goesFrom_80 rfl (lv_at hl 1 rfl) ?_
          refine va_get (D := (dC, dI)) (ci := 11) (v := .ref m_next) (C := RX11) (T := TX11) (N := 52) hx hb hts hiX11 hown hK hP 3 rfl rfl 49 (by decide) (hts (.fieldLink RX11 97 "ScissorsTableModel" "next" "[I") (by decide +kernel)) (fun _ h9 => h9) rfl dX11_goesFrom_81 ?_
          refine lv_iconst (v := 1) hx hb dX11_goesFrom_84 (by decide) ?_
          refine va_iald hx hb hK hP 4 1 rfl rfl (by show ¬ (_ ∨ _); decide) dX11_goesFrom_85 ?_
          refine lv_topi (fun x_151 ex_151 => ?_)
          have ex_151 : x_151 = g_147 1 := ex_151
          obtain rfl : x_151 = nI (u1 / (n - 1) * n) := ex_151.trans hgz.2.1
          refine lv_aload_n hx hb dX11_goesFrom_86 rfl (lv_at hl 1 rfl) ?_
          refine va_get (D := (dC, dI)) (ci := 11) (v := .ref m_next) (C := RX11) (T := TX11) (N := 52) hx hb hts hiX11 hown hK hP 3 rfl rfl 49 (by decide) (hts (.fieldLink RX11 97 "ScissorsTableModel" "next" "[I") (by decide +kernel)) (fun _ h9 => h9) rfl dX11_goesFrom_87 ?_
          refine lv_iconst (v := 2) hx hb dX11_goesFrom_90 (by decide) ?_
          refine va_iald hx hb hK hP 4 1 rfl rfl (by show ¬ (_ ∨ _); decide) dX11_goesFrom_91 ?_
          refine lv_topi (fun x_152 ex_152 => ?_)
          have ex_152 : x_152 = g_147 2 := ex_152
          obtain rfl : x_152 = nI (u2) := ex_152.trans hgz.2.2
          refine lv_iload_n hx hb dX11_goesFrom_92 rfl (lv_at hl 2 rfl) ?_
          refine lv_bipush (v := 72) hx hb dX11_goesFrom_93 (by decide) ?_
          refine lv_iload_n hx hb dX11_goesFrom_95 rfl (lv_at hl 3 rfl) ?_
          refine lv_imul hx hb dX11_goesFrom_96 ?_
          refine lv_topi (fun x_153 ex_153 => ?_)
          obtain rfl : x_153 = 0 := ex_153.trans (by first | rfl | decide)
          refine lv_bipush (v := 24) hx hb dX11_goesFrom_97 (by decide) ?_
          refine lv_iload_n hx hb dX11_goesFrom_99 rfl (lv_at hl 4 rfl) ?_
          refine lv_imul hx hb dX11_goesFrom_100 ?_
          refine lv_topi (fun x_154 ex_154 => ?_)
          obtain rfl : x_154 = 24 := ex_154.trans (by first | rfl | decide)
          refine lv_iadd hx hb dX11_goesFrom_101 ?_
          refine lv_topi (fun x_155 ex_155 => ?_)
          obtain rfl : x_155 = 24 := ex_155.trans (by first | rfl | decide)
          refine lv_iload hx hb dX11_goesFrom_102 (lv_at hl 5 rfl) ?_
          refine lv_iadd hx hb dX11_goesFrom_104 ?_
          refine lv_topi (fun x_156 ex_156 => ?_)
          obtain rfl : x_156 = nI (24 + n) := ex_156.trans (nI_add 24 n)
          refine lv_iconst (v := 1) hx hb dX11_goesFrom_105 (by decide) ?_
          refine lv_isub hx hb dX11_goesFrom_106 ?_
          refine lv_topi (fun x_157 ex_157 => ?_)
          obtain rfl : x_157 = nI ((24 + n) - 1) := ex_157.trans (pk_sub (a := 24 + n) (b := 1) (by omega))
          have hvv : (u0 / n * (n - 1)) * (u1 / (n - 1) * n) * u2 = V := by
            obtain ⟨s0, s1, s2, g0, g1, g2, g3, g4⟩ := hgo
            have g4 : bx_mk (u0 / n * (n - 1)) (u1 / (n - 1) * n) u2 = bx_mk s0 s1 s2 := g4
            have g5 := bx_mk_inj g4 (by omega)
            rw [g5.1, g5.2.1, g5.2.2]
            exact g3
          have hPc := hP.sub (ws' := [(m0, .inr (11, [.int 0, .ref m_tape, .int 0, .int 0, .int 0, .ref m_read, .int 0, .int 0, .int 0, .ref m_tets, .int 0, .int 0, .int 0, .int 0, .int 0, .int 0, .int 0, .int 0, .ref m_primes, .ref m_often, .ref m_normal, .ref m_termM, .ref m_termP, .ref m_termV, .ref m_sumFrom, .ref m_sumMany, .int 0, .int 0, .int 0, .int 0, .ref m_part, .ref m_fair, .ref m_heap, .ref m_pickTet, .ref m_pickEdge, .ref m_base, .ref m_baseM, .ref m_baseP, .ref m_rowsOf, .int 0, .ref m_grid, .ref m_times, .ref m_boxes, .ref m_cameFrom, .ref m_cameBy, .ref m_steps, .ref m_sides, .int (nI P.length), .int (-1), .ref m_next, .ref m_cube, .ref m_ways])), (m_boxes, .inl (cI, 3600, (.inl gb))), (m_cameFrom, .inl (cI, 1200, (.inl gc))), (m_cameBy, .inl (cI, 1200, (.inl gd)))]) [3, 0, 1, 2] rfl
          have hDc := hD.sub (ws' := [(m0, .inr (11, [.int 0, .ref m_tape, .int 0, .int 0, .int 0, .ref m_read, .int 0, .int 0, .int 0, .ref m_tets, .int 0, .int 0, .int 0, .int 0, .int 0, .int 0, .int 0, .int 0, .ref m_primes, .ref m_often, .ref m_normal, .ref m_termM, .ref m_termP, .ref m_termV, .ref m_sumFrom, .ref m_sumMany, .int 0, .int 0, .int 0, .int 0, .ref m_part, .ref m_fair, .ref m_heap, .ref m_pickTet, .ref m_pickEdge, .ref m_base, .ref m_baseM, .ref m_baseP, .ref m_rowsOf, .int 0, .ref m_grid, .ref m_times, .ref m_boxes, .ref m_cameFrom, .ref m_cameBy, .ref m_steps, .ref m_sides, .int (nI P.length), .int (-1), .ref m_next, .ref m_cube, .ref m_ways])), (m_boxes, .inl (cI, 3600, (.inl gb))), (m_cameFrom, .inl (cI, 1200, (.inl gc))), (m_cameBy, .inl (cI, 1200, (.inl gd)))]) [3, 0, 1, 2] (by decide) rfl
          have hFc := va_free (wc := [(m0, .inr (11, [.int 0, .ref m_tape, .int 0, .int 0, .int 0, .ref m_read, .int 0, .int 0, .int 0, .ref m_tets, .int 0, .int 0, .int 0, .int 0, .int 0, .int 0, .int 0, .int 0, .ref m_primes, .ref m_often, .ref m_normal, .ref m_termM, .ref m_termP, .ref m_termV, .ref m_sumFrom, .ref m_sumMany, .int 0, .int 0, .int 0, .int 0, .ref m_part, .ref m_fair, .ref m_heap, .ref m_pickTet, .ref m_pickEdge, .ref m_base, .ref m_baseM, .ref m_baseP, .ref m_rowsOf, .int 0, .ref m_grid, .ref m_times, .ref m_boxes, .ref m_cameFrom, .ref m_cameBy, .ref m_steps, .ref m_sides, .int (nI P.length), .int (-1), .ref m_next, .ref m_cube, .ref m_ways])), (m_boxes, .inl (cI, 3600, (.inl gb))), (m_cameFrom, .inl (cI, 1200, (.inl gc))), (m_cameBy, .inl (cI, 1200, (.inl gd)))]) hD hS hA [3, 0, 1, 2] rfl
          refine va_callv (va_runV (As := [.int (nI (u0 / n * (n - 1))), .int (nI (u1 / (n - 1) * n)), .int (nI (u2)), .int (nI k), .int (nI ((24 + n) - 1))]) (rest := []) ⟨hx, hb, hml, hown, hts⟩ (c_X11_meetsBox l dC dI cB cI cJ H.size m0 m_tape m_read m_tets m_primes m_often m_normal m_termM m_termP m_termV m_sumFrom m_sumMany m_part m_fair m_heap m_pickTet m_pickEdge m_base m_baseM m_baseP m_rowsOf m_grid m_times m_boxes m_cameFrom m_cameBy m_steps m_sides m_next m_cube m_ways P gb gc gd V (u0 / n * (n - 1)) (u1 / (n - 1) * n) u2 k (d + 1) (nI k) (nI ((24 + n) - 1)) (by omega) hvv hPI hPR (by omega) ((if_neg (by omega)).symm)) (cwV 5 hts gX11_goesFrom_X11_meetsBox rfl rfl rfl (by decide +kernel) ⟨Nat.le_of_ble_eq_true rfl, Nat.le_of_ble_eq_true rfl⟩) ⟨fun a U g mk q => by obtain ⟨q0, q1, qP, qK, qD⟩ := q; exact ⟨q0, q1, qP, va_K.moved (u := U) (U := U.calling g mk a) (Vm.Alike.refl U.vm) qK, qD⟩, va_recv hK hP (ci := 11) (q0 := 3) rfl rfl, fun U hU hW => ⟨rfl, by rw [hU], by rw [hU]; exact hPc, va_K.moved hW.alike hK, hDc.weaken (fun _ _ _ _ => trivial)⟩⟩ rfl rfl hl.1 rfl (lv_room (Nat.le_of_ble_eq_true rfl)) dX11_goesFrom_107 ⟨Nat.le_of_ble_eq_true rfl, Nat.le_of_ble_eq_true rfl⟩) hS (fun q _ h => hFc q h) hFc (fun u t H1 locs ht hvm hw hB hz1 hk1 hS => ?_)
          obtain ⟨g_158, g_159, g_160, h_161, hP1, hK1, hD1⟩ := hB
          rw [ht] at hP1
          obtain ⟨hP, hD⟩ := va_join (wr := [(m_next, .inl (cI, 3, (.inl g_147)))]) (w1 := [(m0, .inr (11, [.int 0, .ref m_tape, .int 0, .int 0, .int 0, .ref m_read, .int 0, .int 0, .int 0, .ref m_tets, .int 0, .int 0, .int 0, .int 0, .int 0, .int 0, .int 0, .int 0, .ref m_primes, .ref m_often, .ref m_normal, .ref m_termM, .ref m_termP, .ref m_termV, .ref m_sumFrom, .ref m_sumMany, .int 0, .int 0, .int 0, .int 0, .ref m_part, .ref m_fair, .ref m_heap, .ref m_pickTet, .ref m_pickEdge, .ref m_base, .ref m_baseM, .ref m_baseP, .ref m_rowsOf, .int 0, .ref m_grid, .ref m_times, .ref m_boxes, .ref m_cameFrom, .ref m_cameBy, .ref m_steps, .ref m_sides, .int (nI (q_see P k (d + 1) (bx_mk (u0 / n * (n - 1)) (u1 / (n - 1) * n) u2)).length), .int (-1), .ref m_next, .ref m_cube, .ref m_ways])), (m_boxes, .inl (cI, 3600, (.inl g_158))), (m_cameFrom, .inl (cI, 1200, (.inl g_159))), (m_cameBy, .inl (cI, 1200, (.inl g_160)))]) hP hD [3, 0, 1, 2] [4] rfl rfl (by decide) (by decide) hk1 hFc hP1 hD1
          generalize H1 = H at hP hS ⊢
          have hP : va_P (dC, dI) vwCl [(m_next, .inl (cI, 3, (.inl g_147))), (m0, .inr (11, [.int 0, .ref m_tape, .int 0, .int 0, .int 0, .ref m_read, .int 0, .int 0, .int 0, .ref m_tets, .int 0, .int 0, .int 0, .int 0, .int 0, .int 0, .int 0, .int 0, .ref m_primes, .ref m_often, .ref m_normal, .ref m_termM, .ref m_termP, .ref m_termV, .ref m_sumFrom, .ref m_sumMany, .int 0, .int 0, .int 0, .int 0, .ref m_part, .ref m_fair, .ref m_heap, .ref m_pickTet, .ref m_pickEdge, .ref m_base, .ref m_baseM, .ref m_baseP, .ref m_rowsOf, .int 0, .ref m_grid, .ref m_times, .ref m_boxes, .ref m_cameFrom, .ref m_cameBy, .ref m_steps, .ref m_sides, .int (nI (q_see P k (d + 1) (bx_mk (u0 / n * (n - 1)) (u1 / (n - 1) * n) u2)).length), .int (-1), .ref m_next, .ref m_cube, .ref m_ways])), (m_boxes, .inl (cI, 3600, (.inl g_158))), (m_cameFrom, .inl (cI, 1200, (.inl g_159))), (m_cameBy, .inl (cI, 1200, (.inl g_160)))] H := hP
          have hD : va_D A [(m_next, .inl (cI, 3, (.inl g_147))), (m0, .inr (11, [.int 0, .ref m_tape, .int 0, .int 0, .int 0, .ref m_read, .int 0, .int 0, .int 0, .ref m_tets, .int 0, .int 0, .int 0, .int 0, .int 0, .int 0, .int 0, .int 0, .ref m_primes, .ref m_often, .ref m_normal, .ref m_termM, .ref m_termP, .ref m_termV, .ref m_sumFrom, .ref m_sumMany, .int 0, .int 0, .int 0, .int 0, .ref m_part, .ref m_fair, .ref m_heap, .ref m_pickTet, .ref m_pickEdge, .ref m_base, .ref m_baseM, .ref m_baseP, .ref m_rowsOf, .int 0, .ref m_grid, .ref m_times, .ref m_boxes, .ref m_cameFrom, .ref m_cameBy, .ref m_steps, .ref m_sides, .int (nI (q_see P k (d + 1) (bx_mk (u0 / n * (n - 1)) (u1 / (n - 1) * n) u2)).length), .int (-1), .ref m_next, .ref m_cube, .ref m_ways])), (m_boxes, .inl (cI, 3600, (.inl g_158))), (m_cameFrom, .inl (cI, 1200, (.inl g_159))), (m_cameBy, .inl (cI, 1200, (.inl g_160)))] := hD
          have hPT : q_sees k (d + 1) (nb_n u0 u1 u2 0 1 (25 - (n + 1)) (n + 1) ++ (nb_n u0 u1 u2 0 2 23 2 ++ (nb_n u0 u1 u2 1 0 23 2 ++ (nb_n u0 u1 u2 1 2 23 2 ++ (nb_n u0 u1 u2 2 0 23 2 ++ (nb_n u0 u1 u2 2 1 23 2 ++ [])))))) (q_see P k (d + 1) (bx_mk (u0 / n * (n - 1)) (u1 / (n - 1) * n) u2)) = T := hPT
          obtain ⟨x_162, ex_162⟩ : ∃ y : Int32, y = (nI n) + 1 := ⟨_, rfl⟩
          refine lv_iinc (v := x_162) (lv' := [(4, .int x_162), (5, .int 3), (0, .ref m0), (1, .int (nI k)), (2, .int 0), (3, .int 1)]) hx hb dX11_goesFrom_110 hl (k := 5) rfl (by rw [ex_162]; rfl) (by decide) rfl (fun ls hl => ?_)
          obtain rfl : x_162 = nI (n + 1) := ex_162.trans (nI_1 n)
          have hl : lv_has ls 6 [(4, .int (nI (n + 1))), (5, .int 3), (0, .ref m0), (1, .int (nI k)), (2, .int 0), (3, .int 1)] := hl
          refine lv_goto (tgt := 17) hx hb dX11_goesFrom_113 (by decide) ?_
          exact out _ _ _ (ih01 (n + 1) _ _ _ _ _ (by omega) (by omega) (by omega) (q_pre_at (q_see_pre P k (d + 1) (bx_mk (u0 / n * (n - 1)) (u1 / (n - 1) * n) u2)) hP0) (q_in_add hPI hgo) h_161 hPT _ _ (hP.sub [1, 2, 3, 4, 0] rfl) (hD.sub [1, 2, 3, 4, 0] (by decide) rfl) hS ls (lv_sub hl [2, 3, 4, 5, 0] rfl))
  refine inn _ _ _ ?_
  refine lv_iconst (v := 0) hx hb dX11_goesFrom_0 (by decide) ?_
  refine lv_istore_n (lv' := [(2, .int 0), (0, .ref m0), (1, .int (nI k))]) hx hb dX11_goesFrom_1 rfl hl (by decide) rfl (fun ls hl => ?_)
  refine lv_iload_n hx hb dX11_goesFrom_2 rfl (lv_at hl 0 rfl) ?_
  refine lv_iconst (v := 3) hx hb dX11_goesFrom_3 (by decide) ?_
  refine lv_icmp_ge (tgt := 128) hx hb dX11_goesFrom_4 (by decide) (fun c => absurd c (by decide)) (fun _ => ?_)
  refine lv_iconst (v := 0) hx hb dX11_goesFrom_7 (by decide) ?_
  refine lv_istore_n (lv' := [(3, .int 0), (2, .int 0), (0, .ref m0), (1, .int (nI k))]) hx hb dX11_goesFrom_8 rfl hl (by decide) rfl (fun ls hl => ?_)
  refine lv_iload_n hx hb dX11_goesFrom_9 rfl (lv_at hl 0 rfl) ?_
  refine lv_iconst (v := 3) hx hb dX11_goesFrom_10 (by decide) ?_
  refine lv_icmp_ge (tgt := 122) hx hb dX11_goesFrom_11 (by decide) (fun c => absurd c (by decide)) (fun _ => ?_)
  refine lv_iconst (v := 2) hx hb dX11_goesFrom_14 (by decide) ?_
  refine lv_istore (lv' := [(4, .int 2), (3, .int 0), (2, .int 0), (0, .ref m0), (1, .int (nI k))]) hx hb dX11_goesFrom_15 hl (by decide) rfl (fun ls hl => ?_)
  refine lv_iload hx hb dX11_goesFrom_17 (lv_at hl 0 rfl) ?_
  refine lv_bipush (v := 24) hx hb dX11_goesFrom_19 (by decide) ?_
  refine lv_icmp_gt (tgt := 116) hx hb dX11_goesFrom_21 (by decide) (fun c => absurd c (by decide)) (fun _ => ?_)
  refine lv_iload_n hx hb dX11_goesFrom_24 rfl (lv_at hl 2 rfl) ?_
  refine lv_iload_n hx hb dX11_goesFrom_25 rfl (lv_at hl 1 rfl) ?_
  refine lv_icmp_eq (tgt := 116) hx hb dX11_goesFrom_26 (by decide) (fun _ => ?_) (fun c => absurd (by decide) c)
  refine lv_iinc (v := 1) (lv' := [(3, .int 1), (4, .int 2), (2, .int 0), (0, .ref m0), (1, .int (nI k))]) hx hb dX11_goesFrom_116 hl (k := 1) rfl (by decide) (by decide) rfl (fun ls hl => ?_)
  refine lv_goto (tgt := 9) hx hb dX11_goesFrom_119 (by decide) ?_
  refine lv_iload_n hx hb dX11_goesFrom_9 rfl (lv_at hl 0 rfl) ?_
  refine lv_iconst (v := 3) hx hb dX11_goesFrom_10 (by decide) ?_
  refine lv_icmp_ge (tgt := 122) hx hb dX11_goesFrom_11 (by decide) (fun c => absurd c (by decide)) (fun _ => ?_)
  refine lv_iconst (v := 2) hx hb dX11_goesFrom_14 (by decide) ?_
  refine lv_istore (lv' := [(4, .int 2), (3, .int 1), (2, .int 0), (0, .ref m0), (1, .int (nI k))]) hx hb dX11_goesFrom_15 hl (by decide) rfl (fun ls hl => ?_)
  exact out _ _ _ (loop01 24 2 Q fb fc fd _ rfl (by omega) (by omega) hk hI hR hT _ _ (hP.sub [0, 1, 2, 3, 4] rfl) (hD.sub [0, 1, 2, 3, 4] (by decide) rfl) hS ls (lv_sub hl [3, 4, 2, 1, 0] rfl))
