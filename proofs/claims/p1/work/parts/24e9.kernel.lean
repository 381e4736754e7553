
set_option maxRecDepth 100000 in
set_option maxHeartbeats 4000000 in
theorem vk_0 : w_vs 1 48 = true := by decide +kernel
set_option maxRecDepth 100000 in
set_option maxHeartbeats 4000000 in
theorem vk_1 : w_vs 49 48 = true := by decide +kernel
set_option maxRecDepth 100000 in
set_option maxHeartbeats 4000000 in
theorem vk_2 : w_vs 97 48 = true := by decide +kernel
set_option maxRecDepth 100000 in
set_option maxHeartbeats 4000000 in
theorem vk_3 : w_vs 145 48 = true := by decide +kernel
set_option maxRecDepth 100000 in
set_option maxHeartbeats 4000000 in
theorem vk_4 : w_vs 193 48 = true := by decide +kernel
set_option maxRecDepth 100000 in
set_option maxHeartbeats 4000000 in
theorem vk_5 : w_vs 241 48 = true := by decide +kernel
set_option maxRecDepth 100000 in
set_option maxHeartbeats 4000000 in
theorem vk_6 : w_vs 289 48 = true := by decide +kernel
set_option maxRecDepth 100000 in
set_option maxHeartbeats 4000000 in
theorem vk_7 : w_vs 337 48 = true := by decide +kernel
set_option maxRecDepth 100000 in
set_option maxHeartbeats 4000000 in
theorem vk_8 : w_vs 385 48 = true := by decide +kernel
set_option maxRecDepth 100000 in
set_option maxHeartbeats 4000000 in
theorem vk_9 : w_vs 433 48 = true := by decide +kernel
set_option maxRecDepth 100000 in
set_option maxHeartbeats 4000000 in
theorem vk_10 : w_vs 481 48 = true := by decide +kernel
set_option maxRecDepth 100000 in
set_option maxHeartbeats 4000000 in
theorem vk_11 : w_vs 529 48 = true := by decide +kernel
set_option maxRecDepth 100000 in
set_option maxHeartbeats 4000000 in
theorem vk_12 : w_vs 577 48 = true := by decide +kernel
set_option maxRecDepth 100000 in
set_option maxHeartbeats 4000000 in
theorem vk_13 : w_vs 625 48 = true := by decide +kernel
set_option maxRecDepth 100000 in
set_option maxHeartbeats 4000000 in
theorem vk_14 : w_vs 673 48 = true := by decide +kernel
set_option maxRecDepth 100000 in
set_option maxHeartbeats 4000000 in
theorem vk_15 : w_vs 721 48 = true := by decide +kernel
set_option maxRecDepth 100000 in
set_option maxHeartbeats 4000000 in
theorem vk_16 : w_vs 769 48 = true := by decide +kernel
set_option maxRecDepth 100000 in
set_option maxHeartbeats 4000000 in
theorem vk_17 : w_vs 817 48 = true := by decide +kernel
set_option maxRecDepth 100000 in
set_option maxHeartbeats 4000000 in
theorem vk_18 : w_vs 865 48 = true := by decide +kernel
set_option maxRecDepth 100000 in
set_option maxHeartbeats 4000000 in
theorem vk_19 : w_vs 913 48 = true := by decide +kernel
set_option maxRecDepth 100000 in
set_option maxHeartbeats 4000000 in
theorem vk_20 : w_vs 961 48 = true := by decide +kernel
set_option maxRecDepth 100000 in
set_option maxHeartbeats 4000000 in
theorem vk_21 : w_vs 1009 48 = true := by decide +kernel
set_option maxRecDepth 100000 in
set_option maxHeartbeats 4000000 in
theorem vk_22 : w_vs 1057 48 = true := by decide +kernel
set_option maxRecDepth 100000 in
set_option maxHeartbeats 4000000 in
theorem vk_23 : w_vs 1105 48 = true := by decide +kernel
set_option maxRecDepth 100000 in
set_option maxHeartbeats 4000000 in
theorem vk_24 : w_vs 1153 48 = true := by decide +kernel
set_option maxRecDepth 100000 in
set_option maxHeartbeats 4000000 in
theorem vk_25 : w_vs 1201 48 = true := by decide +kernel
set_option maxRecDepth 100000 in
set_option maxHeartbeats 4000000 in
theorem vk_26 : w_vs 1249 48 = true := by decide +kernel
set_option maxRecDepth 100000 in
set_option maxHeartbeats 4000000 in
theorem vk_27 : w_vs 1297 48 = true := by decide +kernel
set_option maxRecDepth 100000 in
set_option maxHeartbeats 4000000 in
theorem vk_28 : w_vs 1345 48 = true := by decide +kernel
set_option maxRecDepth 100000 in
set_option maxHeartbeats 4000000 in
theorem vk_29 : w_vs 1393 48 = true := by decide +kernel
set_option maxRecDepth 100000 in
set_option maxHeartbeats 4000000 in
theorem vk_30 : w_vs 1441 48 = true := by decide +kernel
set_option maxRecDepth 100000 in
set_option maxHeartbeats 4000000 in
theorem vk_31 : w_vs 1489 48 = true := by decide +kernel
set_option maxRecDepth 100000 in
set_option maxHeartbeats 4000000 in
theorem vk_32 : w_vs 1537 48 = true := by decide +kernel
set_option maxRecDepth 100000 in
set_option maxHeartbeats 4000000 in
theorem vk_33 : w_vs 1585 48 = true := by decide +kernel
set_option maxRecDepth 100000 in
set_option maxHeartbeats 4000000 in
theorem vk_34 : w_vs 1633 48 = true := by decide +kernel
set_option maxRecDepth 100000 in
set_option maxHeartbeats 4000000 in
theorem vk_35 : w_vs 1681 48 = true := by decide +kernel
/-- every row of boxes ends soon, and none is far -/
theorem q_fin {x y z : Nat} (hx : 1 ≤ x ∧ x ≤ 24) (hy : 1 ≤ y ∧ y ≤ 24) (hz : 1 ≤ z ∧ z ≤ 24) (hv : x * y * z ≤ 1728) : (q_at (bx_mk x y z) 97).length ≤ 96 ∧ ∀ (t : Nat) (e : qE), (q_at (bx_mk x y z) 97)[t]? = some e → e.2.2 ≤ 60 := by
  refine q_fin_of2 hx hy hz ?_
  have h1 : 1 ≤ x * y * z := Nat.mul_pos (Nat.mul_pos hx.1 hy.1) hz.1
  generalize x * y * z = V at hv h1 ⊢
  have hc : (1 ≤ V ∧ V < 49) ∨ (49 ≤ V ∧ V < 97) ∨ (97 ≤ V ∧ V < 145) ∨ (145 ≤ V ∧ V < 193) ∨ (193 ≤ V ∧ V < 241) ∨ (241 ≤ V ∧ V < 289) ∨ (289 ≤ V ∧ V < 337) ∨ (337 ≤ V ∧ V < 385) ∨ (385 ≤ V ∧ V < 433) ∨ (433 ≤ V ∧ V < 481) ∨ (481 ≤ V ∧ V < 529) ∨ (529 ≤ V ∧ V < 577) ∨ (577 ≤ V ∧ V < 625) ∨ (625 ≤ V ∧ V < 673) ∨ (673 ≤ V ∧ V < 721) ∨ (721 ≤ V ∧ V < 769) ∨ (769 ≤ V ∧ V < 817) ∨ (817 ≤ V ∧ V < 865) ∨ (865 ≤ V ∧ V < 913) ∨ (913 ≤ V ∧ V < 961) ∨ (961 ≤ V ∧ V < 1009) ∨ (1009 ≤ V ∧ V < 1057) ∨ (1057 ≤ V ∧ V < 1105) ∨ (1105 ≤ V ∧ V < 1153) ∨ (1153 ≤ V ∧ V < 1201) ∨ (1201 ≤ V ∧ V < 1249) ∨ (1249 ≤ V ∧ V < 1297) ∨ (1297 ≤ V ∧ V < 1345) ∨ (1345 ≤ V ∧ V < 1393) ∨ (1393 ≤ V ∧ V < 1441) ∨ (1441 ≤ V ∧ V < 1489) ∨ (1489 ≤ V ∧ V < 1537) ∨ (1537 ≤ V ∧ V < 1585) ∨ (1585 ≤ V ∧ V < 1633) ∨ (1633 ≤ V ∧ V < 1681) ∨ (1681 ≤ V ∧ V < 1729) := by omega
  rcases hc with h | h | h | h | h | h | h | h | h | h | h | h | h | h | h | h | h | h | h | h | h | h | h | h | h | h | h | h | h | h | h | h | h | h | h | h
  · exact w_vs_at vk_0 V x y (by omega) (by omega) hx.1 hx.2 hy.1 hy.2
  · exact w_vs_at vk_1 V x y (by omega) (by omega) hx.1 hx.2 hy.1 hy.2
  · exact w_vs_at vk_2 V x y (by omega) (by omega) hx.1 hx.2 hy.1 hy.2
  · exact w_vs_at vk_3 V x y (by omega) (by omega) hx.1 hx.2 hy.1 hy.2
  · exact w_vs_at vk_4 V x y (by omega) (by omega) hx.1 hx.2 hy.1 hy.2
  · exact w_vs_at vk_5 V x y (by omega) (by omega) hx.1 hx.2 hy.1 hy.2
  · exact w_vs_at vk_6 V x y (by omega) (by omega) hx.1 hx.2 hy.1 hy.2
  · exact w_vs_at vk_7 V x y (by omega) (by omega) hx.1 hx.2 hy.1 hy.2
  · exact w_vs_at vk_8 V x y (by omega) (by omega) hx.1 hx.2 hy.1 hy.2
  · exact w_vs_at vk_9 V x y (by omega) (by omega) hx.1 hx.2 hy.1 hy.2
  · exact w_vs_at vk_10 V x y (by omega) (by omega) hx.1 hx.2 hy.1 hy.2
  · exact w_vs_at vk_11 V x y (by omega) (by omega) hx.1 hx.2 hy.1 hy.2
  · exact w_vs_at vk_12 V x y (by omega) (by omega) hx.1 hx.2 hy.1 hy.2
  · exact w_vs_at vk_13 V x y (by omega) (by omega) hx.1 hx.2 hy.1 hy.2
  · exact w_vs_at vk_14 V x y (by omega) (by omega) hx.1 hx.2 hy.1 hy.2
  · exact w_vs_at vk_15 V x y (by omega) (by omega) hx.1 hx.2 hy.1 hy.2
  · exact w_vs_at vk_16 V x y (by omega) (by omega) hx.1 hx.2 hy.1 hy.2
  · exact w_vs_at vk_17 V x y (by omega) (by omega) hx.1 hx.2 hy.1 hy.2
  · exact w_vs_at vk_18 V x y (by omega) (by omega) hx.1 hx.2 hy.1 hy.2
  · exact w_vs_at vk_19 V x y (by omega) (by omega) hx.1 hx.2 hy.1 hy.2
  · exact w_vs_at vk_20 V x y (by omega) (by omega) hx.1 hx.2 hy.1 hy.2
  · exact w_vs_at vk_21 V x y (by omega) (by omega) hx.1 hx.2 hy.1 hy.2
  · exact w_vs_at vk_22 V x y (by omega) (by omega) hx.1 hx.2 hy.1 hy.2
  · exact w_vs_at vk_23 V x y (by omega) (by omega) hx.1 hx.2 hy.1 hy.2
  · exact w_vs_at vk_24 V x y (by omega) (by omega) hx.1 hx.2 hy.1 hy.2
  · exact w_vs_at vk_25 V x y (by omega) (by omega) hx.1 hx.2 hy.1 hy.2
  · exact w_vs_at vk_26 V x y (by omega) (by omega) hx.1 hx.2 hy.1 hy.2
  · exact w_vs_at vk_27 V x y (by omega) (by omega) hx.1 hx.2 hy.1 hy.2
  · exact w_vs_at vk_28 V x y (by omega) (by omega) hx.1 hx.2 hy.1 hy.2
  · exact w_vs_at vk_29 V x y (by omega) (by omega) hx.1 hx.2 hy.1 hy.2
  · exact w_vs_at vk_30 V x y (by omega) (by omega) hx.1 hx.2 hy.1 hy.2
  · exact w_vs_at vk_31 V x y (by omega) (by omega) hx.1 hx.2 hy.1 hy.2
  · exact w_vs_at vk_32 V x y (by omega) (by omega) hx.1 hx.2 hy.1 hy.2
  · exact w_vs_at vk_33 V x y (by omega) (by omega) hx.1 hx.2 hy.1 hy.2
  · exact w_vs_at vk_34 V x y (by omega) (by omega) hx.1 hx.2 hy.1 hy.2
  · exact w_vs_at vk_35 V x y (by omega) (by omega) hx.1 hx.2 hy.1 hy.2
