
set_option maxRecDepth 20000 in
theorem hL_law_X11_multiples : GoodIn wsL_law0 (wsV RL 158 RX11 yX11_multiples wsX11_multiples) := goodIn_app (goodIn_of _ (by decide +kernel)) hhL_law_X11_multiples
set_option maxRecDepth 20000 in
theorem hL_law_X10_plan : GoodIn wsL_law0 (wsV RL 159 RX10 yX10_plan wsX10_plan) := goodIn_app (goodIn_of _ (by decide +kernel)) hhL_law_X10_plan
set_option maxRecDepth 20000 in
theorem hL_law_X11_plan : GoodIn wsL_law0 (wsV RL 163 RX11 yX11_plan wsX11_plan) := goodIn_app (goodIn_of _ (by decide +kernel)) hhL_law_X11_plan
set_option maxRecDepth 20000 in
theorem hL_law_X10_step : GoodIn wsL_law0 (wsV RL 164 RX10 yX10_step wsX10_step) := goodIn_app (goodIn_of _ (by decide +kernel)) hhL_law_X10_step
set_option maxRecDepth 20000 in
theorem hL_law_X11_step : GoodIn wsL_law0 (wsV RL 167 RX11 yX11_step wsX11_step) := goodIn_app (goodIn_of _ (by decide +kernel)) hhL_law_X11_step
set_option maxRecDepth 20000 in
theorem hL_law_X10_side : GoodIn wsL_law0 (wsV RL 168 RX10 yX10_side wsX10_side) := goodIn_app (goodIn_of _ (by decide +kernel)) hhL_law_X10_side
set_option maxRecDepth 20000 in
theorem hL_law_X11_side : GoodIn wsL_law0 (wsV RL 171 RX11 yX11_side wsX11_side) := goodIn_app (goodIn_of _ (by decide +kernel)) hhL_law_X11_side
set_option maxRecDepth 20000 in
theorem hL_law_X10_cube : GoodIn wsL_law0 (wsV RL 172 RX10 yX10_cube wsX10_cube) := goodIn_app (goodIn_of _ (by decide +kernel)) hhL_law_X10_cube
set_option maxRecDepth 20000 in
theorem hL_law_X11_cube : GoodIn wsL_law0 (wsV RL 175 RX11 yX11_cube wsX11_cube) := goodIn_app (goodIn_of _ (by decide +kernel)) hhL_law_X11_cube
set_option maxRecDepth 20000 in
theorem hL_law_X10_pieces : GoodIn wsL_law0 (wsV RL 176 RX10 yX10_pieces wsX10_pieces) := goodIn_app (goodIn_of _ (by decide +kernel)) hhL_law_X10_pieces
set_option maxRecDepth 20000 in
theorem hL_law_X11_pieces : GoodIn wsL_law0 (wsV RL 179 RX11 yX11_pieces wsX11_pieces) := goodIn_app (goodIn_of _ (by decide +kernel)) hhL_law_X11_pieces
set_option maxRecDepth 20000 in
theorem hL_law_X10_most : GoodIn wsL_law0 (wsV RL 180 RX10 yX10_most wsX10_most) := goodIn_app (goodIn_of _ (by decide +kernel)) hhL_law_X10_most
set_option maxRecDepth 20000 in
theorem hL_law_X11_most : GoodIn wsL_law0 (wsV RL 183 RX11 yX11_most wsX11_most) := goodIn_app (goodIn_of _ (by decide +kernel)) hhL_law_X11_most
theorem inmX0 : ∀ w ∈ wsX00, w ∈ wsL_law0 := fun _ h => List.mem_append_left _ (List.mem_append_left _ (List.mem_append_left _ (List.mem_append_left _ (List.mem_append_left _ (List.mem_append_left _ (List.mem_append_right _ h))))))
theorem inmX1 : ∀ w ∈ wsX10, w ∈ wsL_law0 := fun _ h => List.mem_append_left _ (List.mem_append_left _ (List.mem_append_left _ (List.mem_append_left _ (List.mem_append_left _ (List.mem_append_left _ (List.mem_append_left _ (List.mem_append_left _ (List.mem_append_right _ h))))))))
theorem inmX2 : ∀ w ∈ wsX20, w ∈ wsL_law0 := fun _ h => List.mem_append_left _ (List.mem_append_left _ (List.mem_append_left _ (List.mem_append_left _ (List.mem_append_left _ (List.mem_append_left _ (List.mem_append_left _ (List.mem_append_right _ h)))))))
theorem inmX3 : ∀ w ∈ wsX30, w ∈ wsL_law0 := fun _ h => List.mem_append_left _ (List.mem_append_left _ (List.mem_append_left _ (List.mem_append_left _ (List.mem_append_right _ h))))
theorem inmX4 : ∀ w ∈ wsX40, w ∈ wsL_law0 := fun _ h => List.mem_append_left _ (List.mem_append_left _ (List.mem_append_left _ (List.mem_append_right _ h)))
theorem inmX5 : ∀ w ∈ wsX50, w ∈ wsL_law0 := fun _ h => List.mem_append_left _ (List.mem_append_left _ (List.mem_append_left _ (List.mem_append_left _ (List.mem_append_left _ (List.mem_append_left _ (List.mem_append_left _ (List.mem_append_left _ (List.mem_append_left _ (List.mem_append_right _ h)))))))))
theorem inmX6 : ∀ w ∈ wsX60, w ∈ wsL_law0 := fun _ h => List.mem_append_left _ (List.mem_append_left _ (List.mem_append_right _ h))
theorem inmX7 : ∀ w ∈ wsX70, w ∈ wsL_law0 := fun _ h => List.mem_append_left _ (List.mem_append_right _ h)
theorem inmX8 : ∀ w ∈ wsX80, w ∈ wsL_law0 := fun _ h => List.mem_append_left _ (List.mem_append_left _ (List.mem_append_left _ (List.mem_append_left _ (List.mem_append_left _ (List.mem_append_right _ h)))))
theorem inmX9 : ∀ w ∈ wsX90, w ∈ wsL_law0 := fun _ h => List.mem_append_left _ (List.mem_append_left _ (List.mem_append_left _ (List.mem_append_left _ (List.mem_append_left _ (List.mem_append_left _ (List.mem_append_left _ (List.mem_append_left _ (List.mem_append_left _ (List.mem_append_left _ (List.mem_append_right _ h))))))))))
theorem inmX10 : ∀ w ∈ wsX100, w ∈ wsL_law0 := fun _ h => List.mem_append_left _ (List.mem_append_left _ (List.mem_append_left _ (List.mem_append_left _ (List.mem_append_left _ (List.mem_append_left _ (List.mem_append_left _ (List.mem_append_left _ (List.mem_append_left _ (List.mem_append_left _ (List.mem_append_left _ (List.mem_append_left _ (List.mem_append_right _ h))))))))))))
theorem inmX11 : ∀ w ∈ wsX110, w ∈ wsL_law0 := fun _ h => List.mem_append_left _ (List.mem_append_left _ (List.mem_append_left _ (List.mem_append_left _ (List.mem_append_left _ (List.mem_append_left _ (List.mem_append_left _ (List.mem_append_left _ (List.mem_append_left _ (List.mem_append_left _ (List.mem_append_left _ (List.mem_append_right _ h)))))))))))
