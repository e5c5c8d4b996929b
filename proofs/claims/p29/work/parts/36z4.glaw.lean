set_option maxRecDepth 20000 in
theorem ggL_law_X11_toWhom : GoodIn wsL_law wsX11_toWhom := goodIn_qw (pc inq30 12 1 (pc inq18 1 1 (pc inq13 11 1 (pc inq15 5 1 (pc inq30 13 2 (pc inq19 3 3 (pc inq0 5 1 (pc inq19 6 1 (pc inq8 19 3 (pc inq30 15 9 (pc inq31 0 1 (pc inq28 4 4 (pc inq7 3 1 (pc inq28 8 4 (pc inq21 19 5 (pc inq22 0 3 (pc inq7 1 1 (pc inq6 21 1 (pc inq7 0 1 (pc inq18 6 4 (pc inq6 22 2 (pc inq22 3 4 (pc inq7 2 1 (pc inq22 7 1 (pc inq43 0 46 pn))))))))))))))))))))))))) rfl
set_option maxRecDepth 20000 in
theorem gL_law_X11_toWhom : GoodIn wsL_law (wsV RL 80 RX11 yX11_toWhom wsX11_toWhom) := goodIn_app (goodIn_qw (pc inq30 9 3 (pc inq0 5 1 pn)) rfl) ggL_law_X11_toWhom
set_option maxRecDepth 20000 in
theorem ggL_law_X10_fastest : GoodIn wsL_law wsX10_fastest := goodIn_qw (pc inq31 4 1 (pc inq17 6 1 (pc inq8 6 1 (pc inq2 0 1 (pc inq1 4 1 (pc inq31 5 2 (pc inq18 19 3 (pc inq0 2 1 (pc inq18 22 1 (pc inq0 20 1 (pc inq15 20 1 (pc inq8 8 3 (pc inq31 7 3 (pc inq1 23 1 (pc inq31 10 1 (pc inq6 0 1 (pc inq5 20 1 (pc inq31 11 1 (pc inq9 12 3 (pc inq5 21 1 (pc inq5 16 2 (pc inq31 12 1 (pc inq19 21 2 (pc inq1 3 1 (pc inq19 23 1 (pc inq3 16 3 (pc inq20 0 1 (pc inq9 19 3 (pc inq3 19 4 (pc inq31 13 4 (pc inq5 19 1 (pc inq5 18 1 (pc inq31 17 1 (pc inq5 22 1 (pc inq31 18 6 (pc inq32 0 5 (pc inq23 6 7 (pc inq3 23 1 (pc inq23 13 1 (pc inq32 5 1 (pc inq23 15 5 (pc inq32 6 1 (pc inq20 2 6 (pc inq0 19 1 (pc inq20 8 1 (pc inq2 23 1 (pc inq20 9 1 (pc inq9 16 2 (pc inq20 10 1 (pc inq17 18 3 (pc inq2 18 2 (pc inq20 11 4 (pc inq2 17 1 (pc inq2 22 1 (pc inq20 15 7 (pc inq3 0 1 (pc inq20 22 2 (pc inq21 0 1 (pc inq42 0 14 (pc inq51 0 7 (pc inq44 0 13 (pc inq46 0 8 pn)))))))))))))))))))))))))))))))))))))))))))))))))))))))))))))) rfl
set_option maxRecDepth 20000 in
theorem gL_law_X10_fastest : GoodIn wsL_law (wsV RL 81 RX10 yX10_fastest wsX10_fastest) := goodIn_app (goodIn_qw (pc inq31 1 3 (pc inq0 2 1 pn)) rfl) ggL_law_X10_fastest
set_option maxRecDepth 20000 in
theorem ggL_law_X11_fastest : GoodIn wsL_law wsX11_fastest := goodIn_qw (pc inq32 10 1 (pc inq18 1 1 (pc inq32 11 1 (pc inq8 16 1 (pc inq32 12 2 (pc inq19 3 3 (pc inq0 5 1 (pc inq19 6 1 (pc inq15 5 1 (pc inq8 19 3 (pc inq32 14 4 (pc inq7 16 1 (pc inq7 3 1 (pc inq32 18 5 (pc inq13 11 1 (pc inq24 1 8 (pc inq8 1 1 (pc inq24 9 4 (pc inq15 4 1 (pc inq24 13 4 (pc inq21 15 9 (pc inq22 0 3 (pc inq7 1 1 (pc inq6 21 1 (pc inq7 0 1 (pc inq18 6 4 (pc inq6 22 2 (pc inq22 3 4 (pc inq7 2 1 (pc inq22 7 1 (pc inq32 23 1 (pc inq33 0 3 (pc inq43 0 46 pn))))))))))))))))))))))))))))))))) rfl
set_option maxRecDepth 20000 in
theorem gL_law_X11_fastest : GoodIn wsL_law (wsV RL 84 RX11 yX11_fastest wsX11_fastest) := goodIn_app (goodIn_qw (pc inq32 7 3 (pc inq0 5 1 pn)) rfl) ggL_law_X11_fastest
set_option maxRecDepth 20000 in
theorem ggL_law_X10_byTurns : GoodIn wsL_law wsX10_byTurns := goodIn_qw (pc inq33 6 1 (pc inq17 6 1 (pc inq1 16 1 (pc inq17 13 3 (pc inq0 2 1 (pc inq17 16 1 (pc inq0 20 1 (pc inq9 6 1 (pc inq18 19 4 (pc inq15 20 1 (pc inq33 7 3 (pc inq1 15 1 (pc inq33 10 1 (pc inq5 0 2 (pc inq27 21 1 (pc inq27 16 1 (pc inq27 22 1 (pc inq20 19 2 (pc inq0 19 1 (pc inq20 21 1 (pc inq3 0 1 (pc inq20 22 2 (pc inq9 13 1 (pc inq21 0 1 (pc inq27 23 1 (pc inq20 6 3 (pc inq2 23 1 (pc inq20 9 1 (pc inq9 16 2 (pc inq20 10 1 (pc inq17 18 3 (pc inq2 18 2 (pc inq20 11 4 (pc inq2 17 1 (pc inq2 22 1 (pc inq33 11 4 (pc inq4 23 1 (pc inq20 15 3 (pc inq9 12 1 (pc inq9 14 1 (pc inq22 13 3 (pc inq42 0 14 (pc inq44 0 13 (pc inq49 0 3 (pc inq46 0 8 pn))))))))))))))))))))))))))))))))))))))))))))) rfl
set_option maxRecDepth 20000 in
theorem gL_law_X10_byTurns : GoodIn wsL_law (wsV RL 85 RX10 yX10_byTurns wsX10_byTurns) := goodIn_app (goodIn_qw (pc inq33 3 3 (pc inq0 2 1 pn)) rfl) ggL_law_X10_byTurns
set_option maxRecDepth 20000 in
theorem ggL_law_X11_byTurns : GoodIn wsL_law wsX11_byTurns := goodIn_qw (pc inq33 18 1 (pc inq18 1 4 (pc inq0 5 1 (pc inq18 5 1 (pc inq13 11 1 (pc inq8 19 3 (pc inq19 3 4 (pc inq15 5 1 (pc inq33 19 4 (pc inq7 17 1 (pc inq7 3 1 (pc inq22 3 4 (pc inq7 2 1 (pc inq22 7 1 (pc inq21 19 5 (pc inq22 0 3 (pc inq7 1 1 (pc inq6 21 1 (pc inq7 0 1 (pc inq18 6 4 (pc inq6 22 2 (pc inq22 21 3 (pc inq43 0 46 pn))))))))))))))))))))))) rfl
set_option maxRecDepth 20000 in
theorem gL_law_X11_byTurns : GoodIn wsL_law (wsV RL 88 RX11 yX11_byTurns wsX11_byTurns) := goodIn_app (goodIn_qw (pc inq33 15 3 (pc inq0 5 1 pn)) rfl) ggL_law_X11_byTurns
set_option maxRecDepth 20000 in
theorem ggL_law_X10_dearer : GoodIn wsL_law wsX10_dearer := goodIn_qw (pc inq34 2 2 (pc inq1 16 1 (pc inq34 4 3 (pc inq1 15 1 (pc inq34 7 1 (pc inq5 0 1 (pc inq34 8 3 (pc inq28 22 1 (pc inq27 13 3 (pc inq5 1 1 (pc inq27 16 7 (pc inq20 19 2 (pc inq0 19 1 (pc inq20 21 1 (pc inq3 0 1 (pc inq20 22 2 (pc inq9 13 1 (pc inq21 0 1 (pc inq27 23 1 (pc inq20 6 3 (pc inq2 23 1 (pc inq20 9 1 (pc inq9 16 2 (pc inq20 10 1 (pc inq17 18 3 (pc inq2 18 2 (pc inq20 11 4 (pc inq2 17 1 (pc inq2 22 1 (pc inq20 15 1 (pc inq0 2 1 (pc inq20 16 2 (pc inq9 12 1 (pc inq9 14 1 (pc inq42 0 14 (pc inq49 0 3 (pc inq44 0 13 (pc inq46 0 8 pn)))))))))))))))))))))))))))))))))))))) rfl
set_option maxRecDepth 20000 in
theorem gL_law_X10_dearer : GoodIn wsL_law (wsV RL 89 RX10 yX10_dearer wsX10_dearer) := goodIn_app (goodIn_qw (pc inq33 23 1 (pc inq34 0 2 (pc inq0 2 1 pn))) rfl) ggL_law_X10_dearer
set_option maxRecDepth 20000 in
theorem ggL_law_X11_dearer : GoodIn wsL_law wsX11_dearer := goodIn_qw (pc inq34 14 2 (pc inq13 11 1 (pc inq15 5 1 (pc inq6 21 1 (pc inq28 4 3 (pc inq0 5 1 (pc inq28 7 1 (pc inq7 3 1 (pc inq28 8 4 (pc inq21 19 5 (pc inq22 0 3 (pc inq7 1 1 (pc inq7 0 1 (pc inq18 6 4 (pc inq6 22 2 (pc inq22 3 4 (pc inq7 2 1 (pc inq22 7 1 (pc inq8 19 3 (pc inq43 0 46 pn)))))))))))))))))))) rfl
set_option maxRecDepth 20000 in
theorem gL_law_X11_dearer : GoodIn wsL_law (wsV RL 92 RX11 yX11_dearer wsX11_dearer) := goodIn_app (goodIn_qw (pc inq34 11 3 (pc inq0 5 1 pn)) rfl) ggL_law_X11_dearer
set_option maxRecDepth 20000 in
theorem ggL_law_X10_geese : GoodIn wsL_law wsX10_geese := goodIn_qw (pc inq34 19 1 (pc inq17 6 1 (pc inq34 20 1 (pc inq8 6 1 (pc inq1 16 1 (pc inq17 13 3 (pc inq0 2 1 (pc inq17 16 1 (pc inq0 20 1 (pc inq9 6 1 (pc inq18 19 4 (pc inq15 20 1 (pc inq8 8 3 (pc inq28 16 3 (pc inq1 15 1 (pc inq28 19 1 (pc inq5 1 1 (pc inq28 20 2 (pc inq9 12 3 (pc inq28 22 1 (pc inq27 13 8 (pc inq5 0 1 (pc inq27 21 2 (pc inq20 19 2 (pc inq0 19 1 (pc inq20 21 1 (pc inq3 0 1 (pc inq20 22 2 (pc inq21 0 1 (pc inq27 23 1 (pc inq20 6 3 (pc inq2 23 1 (pc inq20 9 1 (pc inq9 16 2 (pc inq20 10 1 (pc inq17 18 3 (pc inq2 18 2 (pc inq20 11 4 (pc inq2 17 1 (pc inq2 22 1 (pc inq20 15 3 (pc inq42 0 14 (pc inq44 0 13 (pc inq49 0 3 (pc inq46 0 8 pn))))))))))))))))))))))))))))))))))))))))))))) rfl
set_option maxRecDepth 20000 in
theorem gL_law_X10_geese : GoodIn wsL_law (wsV RL 93 RX10 yX10_geese wsX10_geese) := goodIn_app (goodIn_qw (pc inq34 16 3 (pc inq0 2 1 pn)) rfl) ggL_law_X10_geese
set_option maxRecDepth 20000 in
theorem ggL_law_X11_geese : GoodIn wsL_law wsX11_geese := goodIn_qw (pc inq35 0 1 (pc inq18 1 1 (pc inq35 1 1 (pc inq8 16 1 (pc inq18 2 3 (pc inq0 5 1 (pc inq18 5 1 (pc inq13 11 1 (pc inq8 19 3 (pc inq19 3 4 (pc inq15 5 1 (pc inq29 3 4 (pc inq7 3 1 (pc inq28 4 8 (pc inq21 19 5 (pc inq22 0 3 (pc inq7 1 1 (pc inq6 21 1 (pc inq7 0 1 (pc inq18 6 4 (pc inq6 22 2 (pc inq22 3 4 (pc inq7 2 1 (pc inq22 7 1 (pc inq43 0 46 pn))))))))))))))))))))))))) rfl
set_option maxRecDepth 20000 in
theorem gL_law_X11_geese : GoodIn wsL_law (wsV RL 96 RX11 yX11_geese wsX11_geese) := goodIn_app (goodIn_qw (pc inq34 21 3 (pc inq0 5 1 pn)) rfl) ggL_law_X11_geese
set_option maxRecDepth 20000 in
theorem ggL_law_X10_crooked : GoodIn wsL_law wsX10_crooked := goodIn_qw (pc inq35 5 1 (pc inq8 6 1 (pc inq1 4 1 (pc inq15 22 1 (pc inq20 17 1 (pc inq9 12 3 (pc inq35 6 2 (pc inq8 8 2 (pc inq0 2 1 (pc inq8 10 1 (pc inq42 0 14 (pc inq46 0 8 pn)))))))))))) rfl
set_option maxRecDepth 20000 in
theorem gL_law_X10_crooked : GoodIn wsL_law (wsV RL 97 RX10 yX10_crooked wsX10_crooked) := goodIn_app (goodIn_qw (pc inq35 2 3 (pc inq0 2 1 pn)) rfl) ggL_law_X10_crooked
set_option maxRecDepth 20000 in
theorem ggL_law_X11_crooked : GoodIn wsL_law wsX11_crooked := goodIn_qw (pc inq35 11 1 (pc inq26 6 1 (pc inq35 12 1 (pc inq8 16 1 (pc inq7 3 1 (pc inq35 13 1 (pc inq8 19 2 (pc inq0 5 1 (pc inq8 21 1 (pc inq43 0 46 pn)))))))))) rfl
set_option maxRecDepth 20000 in
theorem gL_law_X11_crooked : GoodIn wsL_law (wsV RL 100 RX11 yX11_crooked wsX11_crooked) := goodIn_app (goodIn_qw (pc inq35 8 3 (pc inq0 5 1 pn)) rfl) ggL_law_X11_crooked
