
set_option maxRecDepth 20000 in
theorem hL_law_X10_text : GoodIn wsL_law0 (wsV RL 34 RX10 yX10_text wsX10_text) := goodIn_app (goodIn_of _ (by decide +kernel)) hhL_law_X10_text
set_option maxRecDepth 20000 in
theorem hL_law_X11_text : GoodIn wsL_law0 (wsV RL 37 RX11 yX11_text wsX11_text) := goodIn_app (goodIn_of _ (by decide +kernel)) hhL_law_X11_text
set_option maxRecDepth 20000 in
theorem hL_law_X10_count : GoodIn wsL_law0 (wsV RL 38 RX10 yX10_count wsX10_count) := goodIn_app (goodIn_of _ (by decide +kernel)) hhL_law_X10_count
set_option maxRecDepth 20000 in
theorem hL_law_X11_count : GoodIn wsL_law0 (wsV RL 42 RX11 yX11_count wsX11_count) := goodIn_app (goodIn_of _ (by decide +kernel)) hhL_law_X11_count
set_option maxRecDepth 20000 in
theorem hL_law_L_tet : GoodIn wsL_law0 (va_wsS RL 43 yL_tet wsL_tet) := goodIn_app (goodIn_of _ (by decide +kernel)) hhL_law_L_tet
set_option maxRecDepth 20000 in
theorem hL_law_X11_tet : GoodIn wsL_law0 (wsV RL 48 RX11 yX11_tet wsX11_tet) := goodIn_app (goodIn_of _ (by decide +kernel)) hhL_law_X11_tet
set_option maxRecDepth 20000 in
theorem hL_law_X11_thrown : GoodIn wsL_law0 (wsV RL 49 RX11 yX11_thrown wsX11_thrown) := goodIn_app (goodIn_of _ (by decide +kernel)) hhL_law_X11_thrown
set_option maxRecDepth 20000 in
theorem hL_law_X10_corner : GoodIn wsL_law0 (wsV RL 52 RX10 yX10_corner wsX10_corner) := goodIn_app (goodIn_of _ (by decide +kernel)) hhL_law_X10_corner
set_option maxRecDepth 20000 in
theorem hL_law_X11_corner : GoodIn wsL_law0 (wsV RL 56 RX11 yX11_corner wsX11_corner) := goodIn_app (goodIn_of _ (by decide +kernel)) hhL_law_X11_corner
set_option maxRecDepth 20000 in
theorem hL_law_X10_edge : GoodIn wsL_law0 (wsV RL 57 RX10 yX10_edge wsX10_edge) := goodIn_app (goodIn_of _ (by decide +kernel)) hhL_law_X10_edge
set_option maxRecDepth 20000 in
theorem hL_law_X11_edge : GoodIn wsL_law0 (wsV RL 60 RX11 yX11_edge wsX11_edge) := goodIn_app (goodIn_of _ (by decide +kernel)) hhL_law_X11_edge
set_option maxRecDepth 20000 in
theorem hL_law_X10_prime : GoodIn wsL_law0 (wsV RL 61 RX10 yX10_prime wsX10_prime) := goodIn_app (goodIn_of _ (by decide +kernel)) hhL_law_X10_prime
set_option maxRecDepth 20000 in
theorem hL_law_X11_prime : GoodIn wsL_law0 (wsV RL 65 RX11 yX11_prime wsX11_prime) := goodIn_app (goodIn_of _ (by decide +kernel)) hhL_law_X11_prime
set_option maxRecDepth 20000 in
theorem hL_law_X10_solid : GoodIn wsL_law0 (wsV RL 66 RX10 yX10_solid wsX10_solid) := goodIn_app (goodIn_of _ (by decide +kernel)) hhL_law_X10_solid
set_option maxRecDepth 20000 in
theorem hL_law_X11_solid : GoodIn wsL_law0 (wsV RL 69 RX11 yX11_solid wsX11_solid) := goodIn_app (goodIn_of _ (by decide +kernel)) hhL_law_X11_solid
set_option maxRecDepth 20000 in
theorem hL_law_X10_term : GoodIn wsL_law0 (wsV RL 70 RX10 yX10_term wsX10_term) := goodIn_app (goodIn_of _ (by decide +kernel)) hhL_law_X10_term
set_option maxRecDepth 20000 in
theorem hL_law_X11_term : GoodIn wsL_law0 (wsV RL 73 RX11 yX11_term wsX11_term) := goodIn_app (goodIn_of _ (by decide +kernel)) hhL_law_X11_term
set_option maxRecDepth 20000 in
theorem hL_law_X10_much : GoodIn wsL_law0 (wsV RL 74 RX10 yX10_much wsX10_much) := goodIn_app (goodIn_of _ (by decide +kernel)) hhL_law_X10_much
set_option maxRecDepth 20000 in
theorem hL_law_X11_much : GoodIn wsL_law0 (wsV RL 77 RX11 yX11_much wsX11_much) := goodIn_app (goodIn_of _ (by decide +kernel)) hhL_law_X11_much
set_option maxRecDepth 20000 in
theorem hL_law_X10_alike : GoodIn wsL_law0 (wsV RL 78 RX10 yX10_alike wsX10_alike) := goodIn_app (goodIn_of _ (by decide +kernel)) hhL_law_X10_alike
set_option maxRecDepth 20000 in
theorem hL_law_X11_alike : GoodIn wsL_law0 (wsV RL 81 RX11 yX11_alike wsX11_alike) := goodIn_app (goodIn_of _ (by decide +kernel)) hhL_law_X11_alike
set_option maxRecDepth 20000 in
theorem hL_law_X10_unlike : GoodIn wsL_law0 (wsV RL 82 RX10 yX10_unlike wsX10_unlike) := goodIn_app (goodIn_of _ (by decide +kernel)) hhL_law_X10_unlike
set_option maxRecDepth 20000 in
theorem hL_law_X11_unlike : GoodIn wsL_law0 (wsV RL 85 RX11 yX11_unlike wsX11_unlike) := goodIn_app (goodIn_of _ (by decide +kernel)) hhL_law_X11_unlike
set_option maxRecDepth 20000 in
theorem hL_law_X10_lacks : GoodIn wsL_law0 (wsV RL 86 RX10 yX10_lacks wsX10_lacks) := goodIn_app (goodIn_of _ (by decide +kernel)) hhL_law_X10_lacks
set_option maxRecDepth 20000 in
theorem hL_law_X11_lacks : GoodIn wsL_law0 (wsV RL 89 RX11 yX11_lacks wsX11_lacks) := goodIn_app (goodIn_of _ (by decide +kernel)) hhL_law_X11_lacks
set_option maxRecDepth 20000 in
theorem hL_law_X10_where : GoodIn wsL_law0 (wsV RL 90 RX10 yX10_where wsX10_where) := goodIn_app (goodIn_of _ (by decide +kernel)) hhL_law_X10_where
set_option maxRecDepth 20000 in
theorem hL_law_X11_where : GoodIn wsL_law0 (wsV RL 93 RX11 yX11_where wsX11_where) := goodIn_app (goodIn_of _ (by decide +kernel)) hhL_law_X11_where
set_option maxRecDepth 20000 in
theorem hL_law_X10_cut : GoodIn wsL_law0 (wsV RL 94 RX10 yX10_cut wsX10_cut) := goodIn_app (goodIn_of _ (by decide +kernel)) hhL_law_X10_cut
set_option maxRecDepth 20000 in
theorem hL_law_X11_cut : GoodIn wsL_law0 (wsV RL 97 RX11 yX11_cut wsX11_cut) := goodIn_app (goodIn_of _ (by decide +kernel)) hhL_law_X11_cut
