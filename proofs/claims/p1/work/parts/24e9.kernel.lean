
set_option maxRecDepth 100000 in
set_option maxHeartbeats 4000000 in
theorem vk_7 : w_vs 337 48 = true := by decide +kernel
