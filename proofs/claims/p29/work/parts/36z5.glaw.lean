set_option maxRecDepth 20000 in
theorem ggL_law_X10_worn : GoodIn wsL_law wsX10_worn := goodIn_qw (pc inq35 17 1 (pc inq17 6 1 (pc inq8 6 1 (pc inq2 4 1 (pc inq9 4 1 (pc inq8 7 1 (pc inq17 13 3 (pc inq0 2 1 (pc inq17 16 1 (pc inq0 20 1 (pc inq9 6 1 (pc inq8 8 3 (pc inq35 18 3 (pc inq2 3 1 (pc inq35 21 1 (pc inq6 6 4 (pc inq42 0 14 (pc inq52 0 5 (pc inq44 0 13 pn))))))))))))))))))) rfl
set_option maxRecDepth 20000 in
theorem gL_law_X10_worn : GoodIn wsL_law (wsV RL 101 RX10 yX10_worn wsX10_worn) := goodIn_app (goodIn_qw (pc inq35 14 3 (pc inq0 2 1 pn)) rfl) ggL_law_X10_worn
set_option maxRecDepth 20000 in
theorem ggL_law_X11_worn : GoodIn wsL_law wsX11_worn := goodIn_qw (pc inq36 1 1 (pc inq18 1 1 (pc inq22 20 1 (pc inq36 2 1 (pc inq8 16 1 (pc inq13 8 1 (pc inq8 18 1 (pc inq7 18 3 (pc inq18 2 3 (pc inq0 5 1 (pc inq18 5 1 (pc inq13 11 1 (pc inq8 19 3 (pc inq43 0 46 pn)))))))))))))) rfl
set_option maxRecDepth 20000 in
theorem gL_law_X11_worn : GoodIn wsL_law (wsV RL 104 RX11 yX11_worn wsX11_worn) := goodIn_app (goodIn_qw (pc inq35 22 2 (pc inq36 0 1 (pc inq0 5 1 pn))) rfl) ggL_law_X11_worn
set_option maxRecDepth 20000 in
theorem ggL_law_X10_whose : GoodIn wsL_law wsX10_whose := goodIn_qw (pc inq36 6 1 (pc inq2 4 1 (pc inq36 7 3 (pc inq2 3 1 (pc inq36 10 1 (pc inq6 10 1 (pc inq36 11 5 (pc inq6 6 1 (pc inq6 8 1 (pc inq6 7 1 (pc inq6 9 1 (pc inq36 16 1 (pc inq20 6 2 (pc inq0 19 1 (pc inq20 8 1 (pc inq2 23 1 (pc inq20 9 1 (pc inq9 16 1 (pc inq9 13 1 (pc inq9 17 1 (pc inq20 10 1 (pc inq17 18 3 (pc inq2 18 2 (pc inq20 11 4 (pc inq2 17 1 (pc inq2 22 1 (pc inq20 15 1 (pc inq0 2 1 (pc inq20 16 2 (pc inq9 12 1 (pc inq9 14 1 (pc inq42 0 14 (pc inq52 0 5 (pc inq44 0 13 pn)))))))))))))))))))))))))))))))))) rfl
set_option maxRecDepth 20000 in
theorem gL_law_X10_whose : GoodIn wsL_law (wsV RL 105 RX10 yX10_whose wsX10_whose) := goodIn_app (goodIn_qw (pc inq36 3 3 (pc inq0 2 1 pn)) rfl) ggL_law_X10_whose
set_option maxRecDepth 20000 in
theorem ggL_law_X11_whose : GoodIn wsL_law wsX11_whose := goodIn_qw (pc inq36 20 4 (pc inq0 5 1 (pc inq37 0 1 (pc inq15 5 1 (pc inq13 8 1 (pc inq7 18 3 (pc inq37 1 4 (pc inq21 19 5 (pc inq22 0 3 (pc inq7 1 1 (pc inq6 21 1 (pc inq7 0 1 (pc inq18 6 4 (pc inq6 22 2 (pc inq43 0 46 pn))))))))))))))) rfl
set_option maxRecDepth 20000 in
theorem gL_law_X11_whose : GoodIn wsL_law (wsV RL 108 RX11 yX11_whose wsX11_whose) := goodIn_app (goodIn_qw (pc inq36 17 3 (pc inq0 5 1 pn)) rfl) ggL_law_X11_whose
set_option maxRecDepth 20000 in
theorem ggL_law_X10_lookAt : GoodIn wsL_law wsX10_lookAt := goodIn_qw (pc inq37 8 1 (pc inq2 4 1 (pc inq37 9 3 (pc inq2 3 1 (pc inq37 12 1 (pc inq6 10 1 (pc inq37 13 2 (pc inq36 8 8 (pc inq6 6 1 (pc inq6 8 1 (pc inq6 7 1 (pc inq6 9 1 (pc inq36 16 1 (pc inq20 6 2 (pc inq0 19 1 (pc inq20 8 1 (pc inq2 23 1 (pc inq20 9 1 (pc inq9 16 1 (pc inq9 13 1 (pc inq9 17 1 (pc inq20 10 1 (pc inq17 18 3 (pc inq2 18 2 (pc inq20 11 4 (pc inq2 17 1 (pc inq2 22 1 (pc inq20 15 1 (pc inq0 2 1 (pc inq20 16 2 (pc inq9 12 1 (pc inq9 14 1 (pc inq37 15 9 (pc inq38 0 7 (pc inq42 0 14 (pc inq52 0 5 (pc inq44 0 13 pn))))))))))))))))))))))))))))))))))))) rfl
set_option maxRecDepth 20000 in
theorem gL_law_X10_lookAt : GoodIn wsL_law (wsV RL 109 RX10 yX10_lookAt wsX10_lookAt) := goodIn_app (goodIn_qw (pc inq37 5 3 (pc inq0 2 1 pn)) rfl) ggL_law_X10_lookAt
set_option maxRecDepth 20000 in
theorem ggL_law_X11_lookAt : GoodIn wsL_law wsX11_lookAt := goodIn_qw (pc inq38 10 1 (pc inq13 11 1 (pc inq36 21 3 (pc inq0 5 1 (pc inq37 0 1 (pc inq15 5 1 (pc inq13 8 1 (pc inq7 18 3 (pc inq37 1 4 (pc inq21 19 5 (pc inq22 0 3 (pc inq7 1 1 (pc inq6 21 1 (pc inq7 0 1 (pc inq18 6 4 (pc inq6 22 2 (pc inq38 11 7 (pc inq30 22 2 (pc inq31 0 1 (pc inq43 0 46 pn)))))))))))))))))))) rfl
set_option maxRecDepth 20000 in
theorem gL_law_X11_lookAt : GoodIn wsL_law (wsV RL 112 RX11 yX11_lookAt wsX11_lookAt) := goodIn_app (goodIn_qw (pc inq38 7 3 (pc inq0 5 1 pn)) rfl) ggL_law_X11_lookAt
set_option maxRecDepth 20000 in
theorem ggL_law_X10_note : GoodIn wsL_law wsX10_note := goodIn_qw (pc inq38 21 1 (pc inq17 6 1 (pc inq8 6 1 (pc inq2 8 1 (pc inq9 5 1 (pc inq8 7 1 (pc inq17 13 3 (pc inq0 2 1 (pc inq17 16 1 (pc inq0 20 1 (pc inq9 6 1 (pc inq8 8 3 (pc inq38 22 2 (pc inq39 0 1 (pc inq2 7 1 (pc inq39 1 1 (pc inq6 14 3 (pc inq42 0 14 (pc inq53 0 3 (pc inq44 0 13 pn)))))))))))))))))))) rfl
set_option maxRecDepth 20000 in
theorem gL_law_X10_note : GoodIn wsL_law (wsV RL 113 RX10 yX10_note wsX10_note) := goodIn_app (goodIn_qw (pc inq38 18 3 (pc inq0 2 1 pn)) rfl) ggL_law_X10_note
set_option maxRecDepth 20000 in
theorem ggL_law_X11_note : GoodIn wsL_law wsX11_note := goodIn_qw (pc inq39 5 1 (pc inq18 1 1 (pc inq36 2 1 (pc inq8 16 1 (pc inq13 9 1 (pc inq8 18 1 (pc inq7 21 2 (pc inq18 2 3 (pc inq0 5 1 (pc inq18 5 1 (pc inq13 11 1 (pc inq8 19 3 (pc inq43 0 46 pn))))))))))))) rfl
set_option maxRecDepth 20000 in
theorem gL_law_X11_note : GoodIn wsL_law (wsV RL 116 RX11 yX11_note wsX11_note) := goodIn_app (goodIn_qw (pc inq39 2 3 (pc inq0 5 1 pn)) rfl) ggL_law_X11_note
set_option maxRecDepth 20000 in
theorem ggL_law_X10_tear : GoodIn wsL_law wsX10_tear := goodIn_qw (pc inq39 9 1 (pc inq2 4 1 (pc inq9 4 1 (pc inq2 8 1 (pc inq9 5 1 (pc inq42 0 14 (pc inq52 0 5 (pc inq53 0 3 pn)))))))) rfl
set_option maxRecDepth 20000 in
theorem gL_law_X10_tear : GoodIn wsL_law (wsV RL 117 RX10 yX10_tear wsX10_tear) := goodIn_app (goodIn_qw (pc inq39 6 3 (pc inq0 2 1 pn)) rfl) ggL_law_X10_tear
set_option maxRecDepth 20000 in
theorem ggL_law_X11_tear : GoodIn wsL_law wsX11_tear := goodIn_qw (pc inq39 13 1 (pc inq13 8 2 (pc inq43 0 46 pn))) rfl
set_option maxRecDepth 20000 in
theorem gL_law_X11_tear : GoodIn wsL_law (wsV RL 120 RX11 yX11_tear wsX11_tear) := goodIn_app (goodIn_qw (pc inq39 10 3 (pc inq0 5 1 pn)) rfl) ggL_law_X11_tear
set_option maxRecDepth 20000 in
theorem ggL_law_X10_judge : GoodIn wsL_law wsX10_judge := goodIn_qw (pc inq39 17 1 (pc inq2 8 1 (pc inq1 4 1 (pc inq39 18 3 (pc inq2 7 1 (pc inq39 21 1 (pc inq6 14 1 (pc inq39 22 1 (pc inq6 15 2 (pc inq42 0 14 (pc inq53 0 3 (pc inq46 0 8 pn)))))))))))) rfl
set_option maxRecDepth 20000 in
theorem gL_law_X10_judge : GoodIn wsL_law (wsV RL 121 RX10 yX10_judge wsX10_judge) := goodIn_app (goodIn_qw (pc inq39 14 3 (pc inq0 2 1 pn)) rfl) ggL_law_X10_judge
