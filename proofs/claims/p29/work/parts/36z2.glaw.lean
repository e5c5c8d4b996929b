set_option maxRecDepth 20000 in
theorem ggL_law_X11_quill : GoodIn wsL_law wsX11_quill := goodIn_qw (pc inq18 0 2 (pc inq6 21 3 (pc inq7 3 1 (pc inq8 16 1 (pc inq18 2 3 (pc inq0 5 1 (pc inq18 5 1 (pc inq13 11 1 (pc inq8 19 3 (pc inq18 6 4 (pc inq43 0 46 pn))))))))))) rfl
set_option maxRecDepth 20000 in
theorem gL_law_X11_quill : GoodIn wsL_law (wsV RL 35 RX11 yX11_quill wsX11_quill) := goodIn_app (goodIn_qw (pc inq17 21 3 (pc inq0 5 1 pn)) rfl) ggL_law_X11_quill
set_option maxRecDepth 20000 in
theorem ggL_law_X10_hand : GoodIn wsL_law wsX10_hand := goodIn_qw (pc inq18 13 1 (pc inq17 6 1 (pc inq0 20 1 (pc inq18 14 3 (pc inq1 4 1 (pc inq18 17 2 (pc inq8 6 1 (pc inq18 19 3 (pc inq0 2 1 (pc inq18 22 1 (pc inq15 20 1 (pc inq42 0 14 (pc inq44 0 13 (pc inq46 0 8 pn)))))))))))))) rfl
set_option maxRecDepth 20000 in
theorem gL_law_X10_hand : GoodIn wsL_law (wsV RL 36 RX10 yX10_hand wsX10_hand) := goodIn_app (goodIn_qw (pc inq18 10 3 (pc inq0 2 1 pn)) rfl) ggL_law_X10_hand
set_option maxRecDepth 20000 in
theorem ggL_law_X11_hand : GoodIn wsL_law wsX11_hand := goodIn_qw (pc inq19 2 1 (pc inq18 1 1 (pc inq7 0 4 (pc inq8 16 1 (pc inq19 3 3 (pc inq0 5 1 (pc inq19 6 1 (pc inq15 5 1 (pc inq8 19 3 (pc inq43 0 46 pn)))))))))) rfl
set_option maxRecDepth 20000 in
theorem gL_law_X11_hand : GoodIn wsL_law (wsV RL 39 RX11 yX11_hand wsX11_hand) := goodIn_app (goodIn_qw (pc inq18 23 1 (pc inq19 0 2 (pc inq0 5 1 pn))) rfl) ggL_law_X11_hand
set_option maxRecDepth 20000 in
theorem ggL_law_X10_write : GoodIn wsL_law wsX10_write := goodIn_qw (pc inq19 10 1 (pc inq17 6 1 (pc inq8 6 2 (pc inq1 8 1 (pc inq1 4 1 (pc inq17 13 3 (pc inq0 2 1 (pc inq17 16 1 (pc inq0 20 1 (pc inq9 6 1 (pc inq18 19 4 (pc inq15 20 1 (pc inq8 8 3 (pc inq19 11 4 (pc inq15 21 1 (pc inq19 15 4 (pc inq1 7 1 (pc inq19 19 1 (pc inq4 5 3 (pc inq19 20 3 (pc inq1 3 1 (pc inq19 23 1 (pc inq3 16 3 (pc inq20 0 1 (pc inq9 19 3 (pc inq3 19 4 (pc inq20 1 4 (pc inq3 23 1 (pc inq20 5 3 (pc inq0 19 1 (pc inq20 8 1 (pc inq2 23 1 (pc inq20 9 1 (pc inq9 16 1 (pc inq9 13 1 (pc inq9 17 1 (pc inq20 10 1 (pc inq17 18 3 (pc inq2 18 2 (pc inq20 11 4 (pc inq2 17 1 (pc inq2 22 1 (pc inq20 15 3 (pc inq9 12 1 (pc inq9 14 1 (pc inq20 18 4 (pc inq3 0 1 (pc inq20 22 2 (pc inq21 0 1 (pc inq42 0 14 (pc inq44 0 13 (pc inq46 0 8 (pc inq47 0 3 pn))))))))))))))))))))))))))))))))))))))))))))))))))))) rfl
set_option maxRecDepth 20000 in
theorem gL_law_X10_write : GoodIn wsL_law (wsV RL 40 RX10 yX10_write wsX10_write) := goodIn_app (goodIn_qw (pc inq19 7 3 (pc inq0 2 1 pn)) rfl) ggL_law_X10_write
set_option maxRecDepth 20000 in
theorem ggL_law_X11_write : GoodIn wsL_law wsX11_write := goodIn_qw (pc inq21 4 1 (pc inq18 1 1 (pc inq21 5 1 (pc inq8 16 1 (pc inq7 3 1 (pc inq21 6 1 (pc inq8 18 1 (pc inq18 2 3 (pc inq0 5 1 (pc inq18 5 1 (pc inq13 11 1 (pc inq8 19 3 (pc inq19 3 4 (pc inq15 5 1 (pc inq21 7 4 (pc inq13 10 1 (pc inq7 15 1 (pc inq21 11 13 (pc inq22 0 3 (pc inq7 1 1 (pc inq6 21 1 (pc inq7 0 1 (pc inq18 6 4 (pc inq6 22 2 (pc inq22 3 4 (pc inq7 2 1 (pc inq22 7 1 (pc inq43 0 46 pn)))))))))))))))))))))))))))) rfl
set_option maxRecDepth 20000 in
theorem gL_law_X11_write : GoodIn wsL_law (wsV RL 44 RX11 yX11_write wsX11_write) := goodIn_app (goodIn_qw (pc inq21 1 3 (pc inq0 5 1 pn)) rfl) ggL_law_X11_write
set_option maxRecDepth 20000 in
theorem ggL_law_X10_dry : GoodIn wsL_law wsX10_dry := goodIn_qw (pc inq22 11 1 (pc inq17 6 1 (pc inq8 6 1 (pc inq1 8 1 (pc inq1 4 1 (pc inq17 12 4 (pc inq0 2 1 (pc inq17 16 1 (pc inq0 20 1 (pc inq9 6 1 (pc inq8 8 3 (pc inq19 16 3 (pc inq1 7 1 (pc inq19 19 1 (pc inq4 5 3 (pc inq19 20 3 (pc inq1 3 1 (pc inq19 23 1 (pc inq3 16 3 (pc inq20 0 1 (pc inq9 19 3 (pc inq3 19 4 (pc inq22 12 4 (pc inq9 16 1 (pc inq9 13 1 (pc inq9 17 1 (pc inq42 0 14 (pc inq46 0 8 (pc inq44 0 13 (pc inq47 0 3 pn)))))))))))))))))))))))))))))) rfl
set_option maxRecDepth 20000 in
theorem gL_law_X10_dry : GoodIn wsL_law (wsV RL 45 RX10 yX10_dry wsX10_dry) := goodIn_app (goodIn_qw (pc inq22 8 3 (pc inq0 2 1 pn)) rfl) ggL_law_X10_dry
set_option maxRecDepth 20000 in
theorem ggL_law_X11_dry : GoodIn wsL_law wsX11_dry := goodIn_qw (pc inq22 19 1 (pc inq18 1 1 (pc inq22 20 1 (pc inq8 16 1 (pc inq7 3 1 (pc inq18 2 3 (pc inq0 5 1 (pc inq18 5 1 (pc inq13 11 1 (pc inq8 19 3 (pc inq21 7 4 (pc inq13 10 1 (pc inq7 15 1 (pc inq22 21 3 (pc inq43 0 46 pn))))))))))))))) rfl
set_option maxRecDepth 20000 in
theorem gL_law_X11_dry : GoodIn wsL_law (wsV RL 48 RX11 yX11_dry wsX11_dry) := goodIn_app (goodIn_qw (pc inq22 16 3 (pc inq0 5 1 pn)) rfl) ggL_law_X11_dry
set_option maxRecDepth 20000 in
theorem ggL_law_X10_mend : GoodIn wsL_law wsX10_mend := goodIn_qw (pc inq23 3 1 (pc inq17 6 1 (pc inq1 4 1 (pc inq23 4 1 (pc inq8 7 1 (pc inq1 8 1 (pc inq17 10 1 (pc inq17 13 3 (pc inq0 2 1 (pc inq17 16 1 (pc inq0 20 1 (pc inq9 6 1 (pc inq23 5 3 (pc inq1 3 1 (pc inq23 8 1 (pc inq3 18 1 (pc inq23 9 4 (pc inq3 17 1 (pc inq3 23 1 (pc inq23 13 1 (pc inq19 11 4 (pc inq15 21 1 (pc inq19 15 4 (pc inq1 7 1 (pc inq19 19 1 (pc inq4 5 3 (pc inq19 20 4 (pc inq3 16 1 (pc inq20 0 1 (pc inq9 19 3 (pc inq3 19 4 (pc inq23 14 5 (pc inq9 12 3 (pc inq23 19 1 (pc inq42 0 14 (pc inq46 0 8 (pc inq44 0 13 (pc inq47 0 3 pn)))))))))))))))))))))))))))))))))))))) rfl
set_option maxRecDepth 20000 in
theorem gL_law_X10_mend : GoodIn wsL_law (wsV RL 49 RX10 yX10_mend wsX10_mend) := goodIn_app (goodIn_qw (pc inq23 0 3 (pc inq0 2 1 pn)) rfl) ggL_law_X10_mend
set_option maxRecDepth 20000 in
theorem ggL_law_X11_mend : GoodIn wsL_law wsX11_mend := goodIn_qw (pc inq23 23 1 (pc inq18 1 1 (pc inq24 0 1 (pc inq7 3 1 (pc inq21 6 1 (pc inq8 18 1 (pc inq18 2 3 (pc inq0 5 1 (pc inq18 5 1 (pc inq13 11 1 (pc inq8 19 3 (pc inq24 1 8 (pc inq8 1 1 (pc inq21 7 4 (pc inq13 10 1 (pc inq7 15 1 (pc inq24 9 4 (pc inq15 4 1 (pc inq24 13 4 (pc inq43 0 46 pn)))))))))))))))))))) rfl
set_option maxRecDepth 20000 in
theorem gL_law_X11_mend : GoodIn wsL_law (wsV RL 52 RX11 yX11_mend wsX11_mend) := goodIn_app (goodIn_qw (pc inq23 20 3 (pc inq0 5 1 pn)) rfl) ggL_law_X11_mend
set_option maxRecDepth 20000 in
theorem ggL_law_X10_broaden : GoodIn wsL_law wsX10_broaden := goodIn_qw (pc inq24 20 1 (pc inq17 6 1 (pc inq1 4 1 (pc inq17 11 1 (pc inq23 4 1 (pc inq1 8 1 (pc inq15 22 1 (pc inq17 13 3 (pc inq0 2 1 (pc inq17 16 1 (pc inq0 20 1 (pc inq9 6 1 (pc inq19 16 3 (pc inq1 7 1 (pc inq19 19 1 (pc inq4 5 3 (pc inq19 20 3 (pc inq1 3 1 (pc inq19 23 1 (pc inq3 16 3 (pc inq20 0 1 (pc inq9 19 3 (pc inq3 19 4 (pc inq42 0 14 (pc inq46 0 8 (pc inq44 0 13 (pc inq47 0 3 pn))))))))))))))))))))))))))) rfl
set_option maxRecDepth 20000 in
theorem gL_law_X10_broaden : GoodIn wsL_law (wsV RL 53 RX10 yX10_broaden wsX10_broaden) := goodIn_app (goodIn_qw (pc inq24 17 3 (pc inq0 2 1 pn)) rfl) ggL_law_X10_broaden
set_option maxRecDepth 20000 in
theorem ggL_law_X11_broaden : GoodIn wsL_law wsX11_broaden := goodIn_qw (pc inq25 0 1 (pc inq18 1 1 (pc inq7 3 1 (pc inq24 0 1 (pc inq18 2 3 (pc inq0 5 1 (pc inq18 5 1 (pc inq13 11 1 (pc inq8 19 3 (pc inq21 7 4 (pc inq13 10 1 (pc inq7 15 1 (pc inq24 13 4 (pc inq43 0 46 pn)))))))))))))) rfl
set_option maxRecDepth 20000 in
theorem gL_law_X11_broaden : GoodIn wsL_law (wsV RL 56 RX11 yX11_broaden wsX11_broaden) := goodIn_app (goodIn_qw (pc inq24 21 3 (pc inq0 5 1 pn)) rfl) ggL_law_X11_broaden
