
set_option maxRecDepth 20000 in
theorem hL_law_X10_join : GoodIn wsL_law0 (wsV RL 98 RX10 yX10_join wsX10_join) := goodIn_app (goodIn_of _ (by decide +kernel)) hhL_law_X10_join
set_option maxRecDepth 20000 in
theorem hL_law_X11_join : GoodIn wsL_law0 (wsV RL 101 RX11 yX11_join wsX11_join) := goodIn_app (goodIn_of _ (by decide +kernel)) hhL_law_X11_join
set_option maxRecDepth 20000 in
theorem hL_law_X10_turn : GoodIn wsL_law0 (wsV RL 102 RX10 yX10_turn wsX10_turn) := goodIn_app (goodIn_of _ (by decide +kernel)) hhL_law_X10_turn
set_option maxRecDepth 20000 in
theorem hL_law_X11_turn : GoodIn wsL_law0 (wsV RL 105 RX11 yX11_turn wsX11_turn) := goodIn_app (goodIn_of _ (by decide +kernel)) hhL_law_X11_turn
set_option maxRecDepth 20000 in
theorem hL_law_X10_move : GoodIn wsL_law0 (wsV RL 106 RX10 yX10_move wsX10_move) := goodIn_app (goodIn_of _ (by decide +kernel)) hhL_law_X10_move
set_option maxRecDepth 20000 in
theorem hL_law_X11_move : GoodIn wsL_law0 (wsV RL 109 RX11 yX11_move wsX11_move) := goodIn_app (goodIn_of _ (by decide +kernel)) hhL_law_X11_move
set_option maxRecDepth 20000 in
theorem hL_law_X10_give : GoodIn wsL_law0 (wsV RL 110 RX10 yX10_give wsX10_give) := goodIn_app (goodIn_of _ (by decide +kernel)) hhL_law_X10_give
set_option maxRecDepth 20000 in
theorem hL_law_X11_give : GoodIn wsL_law0 (wsV RL 113 RX11 yX11_give wsX11_give) := goodIn_app (goodIn_of _ (by decide +kernel)) hhL_law_X11_give
set_option maxRecDepth 20000 in
theorem hL_law_X10_drop : GoodIn wsL_law0 (wsV RL 114 RX10 yX10_drop wsX10_drop) := goodIn_app (goodIn_of _ (by decide +kernel)) hhL_law_X10_drop
set_option maxRecDepth 20000 in
theorem hL_law_X11_drop : GoodIn wsL_law0 (wsV RL 117 RX11 yX11_drop wsX11_drop) := goodIn_app (goodIn_of _ (by decide +kernel)) hhL_law_X11_drop
set_option maxRecDepth 20000 in
theorem hL_law_X10_points : GoodIn wsL_law0 (wsV RL 118 RX10 yX10_points wsX10_points) := goodIn_app (goodIn_of _ (by decide +kernel)) hhL_law_X10_points
set_option maxRecDepth 20000 in
theorem hL_law_X11_points : GoodIn wsL_law0 (wsV RL 121 RX11 yX11_points wsX11_points) := goodIn_app (goodIn_of _ (by decide +kernel)) hhL_law_X11_points
set_option maxRecDepth 20000 in
theorem hL_law_X10_fairest : GoodIn wsL_law0 (wsV RL 122 RX10 yX10_fairest wsX10_fairest) := goodIn_app (goodIn_of _ (by decide +kernel)) hhL_law_X10_fairest
set_option maxRecDepth 20000 in
theorem hL_law_X11_fairest : GoodIn wsL_law0 (wsV RL 125 RX11 yX11_fairest wsX11_fairest) := goodIn_app (goodIn_of _ (by decide +kernel)) hhL_law_X11_fairest
set_option maxRecDepth 20000 in
theorem hL_law_X10_cutsTo : GoodIn wsL_law0 (wsV RL 126 RX10 yX10_cutsTo wsX10_cutsTo) := goodIn_app (goodIn_of _ (by decide +kernel)) hhL_law_X10_cutsTo
set_option maxRecDepth 20000 in
theorem hL_law_X11_cutsTo : GoodIn wsL_law0 (wsV RL 129 RX11 yX11_cutsTo wsX11_cutsTo) := goodIn_app (goodIn_of _ (by decide +kernel)) hhL_law_X11_cutsTo
set_option maxRecDepth 20000 in
theorem hL_law_X10_pick : GoodIn wsL_law0 (wsV RL 130 RX10 yX10_pick wsX10_pick) := goodIn_app (goodIn_of _ (by decide +kernel)) hhL_law_X10_pick
set_option maxRecDepth 20000 in
theorem hL_law_X11_pick : GoodIn wsL_law0 (wsV RL 133 RX11 yX11_pick wsX11_pick) := goodIn_app (goodIn_of _ (by decide +kernel)) hhL_law_X11_pick
set_option maxRecDepth 20000 in
theorem hL_law_X10_unpick : GoodIn wsL_law0 (wsV RL 134 RX10 yX10_unpick wsX10_unpick) := goodIn_app (goodIn_of _ (by decide +kernel)) hhL_law_X10_unpick
set_option maxRecDepth 20000 in
theorem hL_law_X11_unpick : GoodIn wsL_law0 (wsV RL 137 RX11 yX11_unpick wsX11_unpick) := goodIn_app (goodIn_of _ (by decide +kernel)) hhL_law_X11_unpick
set_option maxRecDepth 20000 in
theorem hL_law_X10_rank : GoodIn wsL_law0 (wsV RL 138 RX10 yX10_rank wsX10_rank) := goodIn_app (goodIn_of _ (by decide +kernel)) hhL_law_X10_rank
set_option maxRecDepth 20000 in
theorem hL_law_X11_rank : GoodIn wsL_law0 (wsV RL 141 RX11 yX11_rank wsX11_rank) := goodIn_app (goodIn_of _ (by decide +kernel)) hhL_law_X11_rank
set_option maxRecDepth 20000 in
theorem hL_law_X10_relation : GoodIn wsL_law0 (wsV RL 142 RX10 yX10_relation wsX10_relation) := goodIn_app (goodIn_of _ (by decide +kernel)) hhL_law_X10_relation
set_option maxRecDepth 20000 in
theorem hL_law_X11_relation : GoodIn wsL_law0 (wsV RL 145 RX11 yX11_relation wsX11_relation) := goodIn_app (goodIn_of _ (by decide +kernel)) hhL_law_X11_relation
set_option maxRecDepth 20000 in
theorem hL_law_X10_rankOf : GoodIn wsL_law0 (wsV RL 146 RX10 yX10_rankOf wsX10_rankOf) := goodIn_app (goodIn_of _ (by decide +kernel)) hhL_law_X10_rankOf
set_option maxRecDepth 20000 in
theorem hL_law_X11_rankOf : GoodIn wsL_law0 (wsV RL 149 RX11 yX11_rankOf wsX11_rankOf) := goodIn_app (goodIn_of _ (by decide +kernel)) hhL_law_X11_rankOf
set_option maxRecDepth 20000 in
theorem hL_law_X10_relationOf : GoodIn wsL_law0 (wsV RL 150 RX10 yX10_relationOf wsX10_relationOf) := goodIn_app (goodIn_of _ (by decide +kernel)) hhL_law_X10_relationOf
set_option maxRecDepth 20000 in
theorem hL_law_X11_relationOf : GoodIn wsL_law0 (wsV RL 153 RX11 yX11_relationOf wsX11_relationOf) := goodIn_app (goodIn_of _ (by decide +kernel)) hhL_law_X11_relationOf
set_option maxRecDepth 20000 in
theorem hL_law_X10_multiples : GoodIn wsL_law0 (wsV RL 154 RX10 yX10_multiples wsX10_multiples) := goodIn_app (goodIn_of _ (by decide +kernel)) hhL_law_X10_multiples
