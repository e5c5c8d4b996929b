set_option maxRecDepth 20000 in
theorem ggL_law_X11_judge : GoodIn wsL_law wsX11_judge := goodIn_qw (pc inq40 2 1 (pc inq13 9 1 (pc inq7 3 1 (pc inq7 21 2 (pc inq43 0 46 pn))))) rfl
set_option maxRecDepth 20000 in
theorem gL_law_X11_judge : GoodIn wsL_law (wsV RL 124 RX11 yX11_judge wsX11_judge) := goodIn_app (goodIn_qw (pc inq39 23 1 (pc inq40 0 2 (pc inq0 5 1 pn))) rfl) ggL_law_X11_judge
set_option maxRecDepth 20000 in
theorem ggL_law_X10_seed : GoodIn wsL_law wsX10_seed := goodIn_qw (pc inq40 6 1 (pc inq8 6 1 (pc inq0 16 1 (pc inq42 0 14 pn)))) rfl
set_option maxRecDepth 20000 in
theorem gL_law_X10_seed : GoodIn wsL_law (wsV RL 125 RX10 yX10_seed wsX10_seed) := goodIn_app (goodIn_qw (pc inq40 3 3 (pc inq0 2 1 pn)) rfl) ggL_law_X10_seed
set_option maxRecDepth 20000 in
theorem ggL_law_X11_seed : GoodIn wsL_law wsX11_seed := goodIn_qw (pc inq40 10 1 (pc inq8 16 1 (pc inq26 15 1 (pc inq43 0 46 pn)))) rfl
set_option maxRecDepth 20000 in
theorem gL_law_X11_seed : GoodIn wsL_law (wsV RL 128 RX11 yX11_seed wsX11_seed) := goodIn_app (goodIn_qw (pc inq40 7 3 (pc inq0 5 1 pn)) rfl) ggL_law_X11_seed
set_option maxRecDepth 20000 in
theorem ggL_law_X10_keep : GoodIn wsL_law wsX10_keep := goodIn_qw (pc inq40 14 1 (pc inq17 6 1 (pc inq1 12 1 (pc inq40 15 1 (pc inq1 4 1 (pc inq40 16 1 (pc inq0 16 1 (pc inq40 17 1 (pc inq1 8 1 (pc inq8 8 2 (pc inq0 2 1 (pc inq8 10 1 (pc inq40 18 1 (pc inq19 21 2 (pc inq1 3 1 (pc inq19 23 1 (pc inq3 16 3 (pc inq20 0 1 (pc inq9 19 3 (pc inq3 19 4 (pc inq12 17 3 (pc inq1 7 1 (pc inq12 20 1 (pc inq4 7 1 (pc inq42 0 14 (pc inq48 0 3 (pc inq46 0 8 (pc inq47 0 3 pn)))))))))))))))))))))))))))) rfl
set_option maxRecDepth 20000 in
theorem gL_law_X10_keep : GoodIn wsL_law (wsV RL 129 RX10 yX10_keep wsX10_keep) := goodIn_app (goodIn_qw (pc inq40 11 3 (pc inq0 2 1 pn)) rfl) ggL_law_X10_keep
set_option maxRecDepth 20000 in
theorem ggL_law_X11_keep : GoodIn wsL_law wsX11_keep := goodIn_qw (pc inq40 22 1 (pc inq18 1 1 (pc inq7 23 1 (pc inq7 3 1 (pc inq26 15 1 (pc inq8 0 1 (pc inq13 10 1 (pc inq8 19 2 (pc inq0 5 1 (pc inq8 21 1 (pc inq43 0 46 pn))))))))))) rfl
set_option maxRecDepth 20000 in
theorem gL_law_X11_keep : GoodIn wsL_law (wsV RL 132 RX11 yX11_keep wsX11_keep) := goodIn_app (goodIn_qw (pc inq40 19 3 (pc inq0 5 1 pn)) rfl) ggL_law_X11_keep
set_option maxRecDepth 20000 in
theorem ggL_law_X10_goBack : GoodIn wsL_law wsX10_goBack := goodIn_qw (pc inq41 2 1 (pc inq17 6 1 (pc inq1 12 1 (pc inq40 17 1 (pc inq23 4 1 (pc inq1 4 1 (pc inq40 15 2 (pc inq0 16 1 (pc inq1 8 1 (pc inq8 8 2 (pc inq0 2 1 (pc inq8 10 1 (pc inq40 18 1 (pc inq19 21 2 (pc inq1 3 1 (pc inq19 23 1 (pc inq3 16 3 (pc inq20 0 1 (pc inq9 19 3 (pc inq3 19 4 (pc inq12 17 3 (pc inq1 7 1 (pc inq12 20 1 (pc inq4 7 1 (pc inq42 0 14 (pc inq48 0 3 (pc inq46 0 8 (pc inq47 0 3 pn)))))))))))))))))))))))))))) rfl
set_option maxRecDepth 20000 in
theorem gL_law_X10_goBack : GoodIn wsL_law (wsV RL 133 RX10 yX10_goBack wsX10_goBack) := goodIn_app (goodIn_qw (pc inq40 23 1 (pc inq41 0 2 (pc inq0 2 1 pn))) rfl) ggL_law_X10_goBack
set_option maxRecDepth 20000 in
theorem ggL_law_X11_goBack : GoodIn wsL_law wsX11_goBack := goodIn_qw (pc inq41 6 1 (pc inq18 1 1 (pc inq8 0 1 (pc inq24 0 1 (pc inq7 3 1 (pc inq7 23 1 (pc inq26 15 1 (pc inq13 10 1 (pc inq8 19 2 (pc inq0 5 1 (pc inq8 21 1 (pc inq43 0 46 pn)))))))))))) rfl
set_option maxRecDepth 20000 in
theorem gL_law_X11_goBack : GoodIn wsL_law (wsV RL 136 RX11 yX11_goBack wsX11_goBack) := goodIn_app (goodIn_qw (pc inq41 3 3 (pc inq0 5 1 pn)) rfl) ggL_law_X11_goBack
