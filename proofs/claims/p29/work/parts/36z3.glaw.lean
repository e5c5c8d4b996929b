set_option maxRecDepth 20000 in
theorem ggL_law_X10_whet : GoodIn wsL_law wsX10_whet := goodIn_qw (pc inq25 4 1 (pc inq0 20 1 (pc inq25 5 1 (pc inq23 4 1 (pc inq8 7 1 (pc inq1 8 1 (pc inq1 4 1 (pc inq15 22 1 (pc inq15 21 1 (pc inq19 11 3 (pc inq0 2 1 (pc inq19 14 5 (pc inq1 7 1 (pc inq19 19 1 (pc inq4 5 3 (pc inq19 20 3 (pc inq1 3 1 (pc inq19 23 1 (pc inq3 16 3 (pc inq20 0 1 (pc inq9 19 3 (pc inq3 19 4 (pc inq42 0 14 (pc inq44 0 13 (pc inq46 0 8 (pc inq47 0 3 pn)))))))))))))))))))))))))) rfl
set_option maxRecDepth 20000 in
theorem gL_law_X10_whet : GoodIn wsL_law (wsV RL 57 RX10 yX10_whet wsX10_whet) := goodIn_app (goodIn_qw (pc inq25 1 3 (pc inq0 2 1 pn)) rfl) ggL_law_X10_whet
set_option maxRecDepth 20000 in
theorem ggL_law_X11_whet : GoodIn wsL_law wsX11_whet := goodIn_qw (pc inq25 9 1 (pc inq8 1 1 (pc inq24 0 1 (pc inq7 3 1 (pc inq21 6 1 (pc inq8 18 1 (pc inq21 7 3 (pc inq0 5 1 (pc inq21 10 1 (pc inq13 10 1 (pc inq7 15 1 (pc inq43 0 46 pn)))))))))))) rfl
set_option maxRecDepth 20000 in
theorem gL_law_X11_whet : GoodIn wsL_law (wsV RL 60 RX11 yX11_whet wsX11_whet) := goodIn_app (goodIn_qw (pc inq25 6 3 (pc inq0 5 1 pn)) rfl) ggL_law_X11_whet
set_option maxRecDepth 20000 in
theorem ggL_law_X10_drift : GoodIn wsL_law wsX10_drift := goodIn_qw (pc inq25 13 1 (pc inq8 6 1 (pc inq0 20 1 (pc inq25 5 1 (pc inq23 4 1 (pc inq8 7 1 (pc inq1 8 1 (pc inq1 4 1 (pc inq9 6 1 (pc inq15 20 2 (pc inq8 8 2 (pc inq0 2 1 (pc inq8 10 1 (pc inq19 11 8 (pc inq1 7 1 (pc inq19 19 1 (pc inq4 5 3 (pc inq19 20 3 (pc inq1 3 1 (pc inq19 23 1 (pc inq3 16 3 (pc inq20 0 1 (pc inq9 19 3 (pc inq3 19 4 (pc inq25 14 4 (pc inq17 12 1 (pc inq25 18 4 (pc inq0 16 1 (pc inq25 22 2 (pc inq26 0 2 (pc inq23 5 8 (pc inq3 23 1 (pc inq23 13 6 (pc inq9 12 3 (pc inq23 19 1 (pc inq22 12 4 (pc inq9 16 2 (pc inq20 1 7 (pc inq0 19 1 (pc inq20 8 1 (pc inq2 23 1 (pc inq20 9 2 (pc inq17 18 3 (pc inq2 18 2 (pc inq20 11 4 (pc inq2 17 1 (pc inq2 22 1 (pc inq20 15 7 (pc inq3 0 1 (pc inq20 22 2 (pc inq21 0 1 (pc inq42 0 14 (pc inq44 0 13 (pc inq46 0 8 (pc inq47 0 3 pn))))))))))))))))))))))))))))))))))))))))))))))))))))))) rfl
set_option maxRecDepth 20000 in
theorem gL_law_X10_drift : GoodIn wsL_law (wsV RL 61 RX10 yX10_drift wsX10_drift) := goodIn_app (goodIn_qw (pc inq25 10 3 (pc inq0 2 1 pn)) rfl) ggL_law_X10_drift
set_option maxRecDepth 20000 in
theorem ggL_law_X11_drift : GoodIn wsL_law wsX11_drift := goodIn_qw (pc inq26 5 2 (pc inq8 16 1 (pc inq8 1 1 (pc inq24 0 1 (pc inq7 3 1 (pc inq21 6 1 (pc inq8 18 1 (pc inq13 11 1 (pc inq15 5 1 (pc inq8 19 2 (pc inq0 5 1 (pc inq8 21 1 (pc inq21 7 4 (pc inq13 10 1 (pc inq7 15 1 (pc inq26 7 13 (pc inq24 1 12 (pc inq15 4 1 (pc inq24 13 4 (pc inq22 21 3 (pc inq21 11 13 (pc inq22 0 3 (pc inq7 1 1 (pc inq6 21 1 (pc inq7 0 1 (pc inq18 6 4 (pc inq6 22 2 (pc inq22 3 4 (pc inq7 2 1 (pc inq22 7 1 (pc inq43 0 46 pn))))))))))))))))))))))))))))))) rfl
set_option maxRecDepth 20000 in
theorem gL_law_X11_drift : GoodIn wsL_law (wsV RL 64 RX11 yX11_drift wsX11_drift) := goodIn_app (goodIn_qw (pc inq26 2 3 (pc inq0 5 1 pn)) rfl) ggL_law_X11_drift
set_option maxRecDepth 20000 in
theorem ggL_law_X10_undo : GoodIn wsL_law wsX10_undo := goodIn_qw (pc inq26 23 1 (pc inq1 8 1 (pc inq15 23 1 (pc inq23 4 1 (pc inq1 4 1 (pc inq27 0 3 (pc inq1 7 1 (pc inq27 3 1 (pc inq4 7 1 (pc inq4 5 2 (pc inq19 20 3 (pc inq1 3 1 (pc inq19 23 1 (pc inq3 16 3 (pc inq20 0 1 (pc inq9 19 3 (pc inq3 19 4 (pc inq42 0 14 (pc inq47 0 3 (pc inq46 0 8 pn)))))))))))))))))))) rfl
set_option maxRecDepth 20000 in
theorem gL_law_X10_undo : GoodIn wsL_law (wsV RL 65 RX10 yX10_undo wsX10_undo) := goodIn_app (goodIn_qw (pc inq26 20 3 (pc inq0 2 1 pn)) rfl) ggL_law_X10_undo
set_option maxRecDepth 20000 in
theorem ggL_law_X11_undo : GoodIn wsL_law wsX11_undo := goodIn_qw (pc inq27 7 1 (pc inq13 10 1 (pc inq24 0 1 (pc inq7 3 1 (pc inq7 15 1 (pc inq43 0 46 pn)))))) rfl
set_option maxRecDepth 20000 in
theorem gL_law_X11_undo : GoodIn wsL_law (wsV RL 68 RX11 yX11_undo wsX11_undo) := goodIn_app (goodIn_qw (pc inq27 4 3 (pc inq0 5 1 pn)) rfl) ggL_law_X11_undo
set_option maxRecDepth 20000 in
theorem ggL_law_X10_goodPages : GoodIn wsL_law wsX10_goodPages := goodIn_qw (pc inq27 11 1 (pc inq17 6 1 (pc inq1 16 1 (pc inq17 13 3 (pc inq0 2 1 (pc inq17 16 1 (pc inq0 20 1 (pc inq9 6 1 (pc inq18 19 4 (pc inq15 20 1 (pc inq27 12 3 (pc inq1 15 1 (pc inq27 15 1 (pc inq5 1 1 (pc inq27 16 5 (pc inq5 0 1 (pc inq27 21 2 (pc inq20 19 2 (pc inq0 19 1 (pc inq20 21 1 (pc inq3 0 1 (pc inq20 22 2 (pc inq9 13 1 (pc inq21 0 1 (pc inq27 23 1 (pc inq20 6 3 (pc inq2 23 1 (pc inq20 9 1 (pc inq9 16 2 (pc inq20 10 1 (pc inq17 18 3 (pc inq2 18 2 (pc inq20 11 4 (pc inq2 17 1 (pc inq2 22 1 (pc inq20 15 3 (pc inq9 12 1 (pc inq9 14 1 (pc inq42 0 14 (pc inq44 0 13 (pc inq49 0 3 (pc inq46 0 8 pn)))))))))))))))))))))))))))))))))))))))))) rfl
set_option maxRecDepth 20000 in
theorem gL_law_X10_goodPages : GoodIn wsL_law (wsV RL 69 RX10 yX10_goodPages wsX10_goodPages) := goodIn_app (goodIn_qw (pc inq27 8 3 (pc inq0 2 1 pn)) rfl) ggL_law_X10_goodPages
set_option maxRecDepth 20000 in
theorem ggL_law_X11_goodPages : GoodIn wsL_law wsX11_goodPages := goodIn_qw (pc inq28 3 1 (pc inq18 1 4 (pc inq0 5 1 (pc inq18 5 1 (pc inq13 11 1 (pc inq8 19 3 (pc inq19 3 4 (pc inq15 5 1 (pc inq28 4 4 (pc inq7 3 1 (pc inq28 8 4 (pc inq21 19 5 (pc inq22 0 3 (pc inq7 1 1 (pc inq6 21 1 (pc inq7 0 1 (pc inq18 6 4 (pc inq6 22 2 (pc inq22 3 4 (pc inq7 2 1 (pc inq22 7 1 (pc inq43 0 46 pn)))))))))))))))))))))) rfl
set_option maxRecDepth 20000 in
theorem gL_law_X11_goodPages : GoodIn wsL_law (wsV RL 72 RX11 yX11_goodPages wsX11_goodPages) := goodIn_app (goodIn_qw (pc inq28 0 3 (pc inq0 5 1 pn)) rfl) ggL_law_X11_goodPages
set_option maxRecDepth 20000 in
theorem ggL_law_X10_life : GoodIn wsL_law wsX10_life := goodIn_qw (pc inq28 15 1 (pc inq17 6 1 (pc inq1 16 1 (pc inq17 13 3 (pc inq0 2 1 (pc inq17 16 1 (pc inq0 20 1 (pc inq9 6 1 (pc inq18 19 4 (pc inq15 20 1 (pc inq28 16 3 (pc inq1 15 1 (pc inq28 19 1 (pc inq5 1 1 (pc inq28 20 2 (pc inq9 12 3 (pc inq28 22 1 (pc inq27 13 8 (pc inq5 0 1 (pc inq27 21 2 (pc inq20 19 2 (pc inq0 19 1 (pc inq20 21 1 (pc inq3 0 1 (pc inq20 22 2 (pc inq21 0 1 (pc inq27 23 1 (pc inq20 6 3 (pc inq2 23 1 (pc inq20 9 1 (pc inq9 16 2 (pc inq20 10 1 (pc inq17 18 3 (pc inq2 18 2 (pc inq20 11 4 (pc inq2 17 1 (pc inq2 22 1 (pc inq20 15 3 (pc inq42 0 14 (pc inq44 0 13 (pc inq49 0 3 (pc inq46 0 8 pn)))))))))))))))))))))))))))))))))))))))))) rfl
set_option maxRecDepth 20000 in
theorem gL_law_X10_life : GoodIn wsL_law (wsV RL 73 RX10 yX10_life wsX10_life) := goodIn_app (goodIn_qw (pc inq28 12 3 (pc inq0 2 1 pn)) rfl) ggL_law_X10_life
set_option maxRecDepth 20000 in
theorem ggL_law_X11_life : GoodIn wsL_law wsX11_life := goodIn_qw (pc inq29 2 1 (pc inq18 1 4 (pc inq0 5 1 (pc inq18 5 1 (pc inq13 11 1 (pc inq8 19 3 (pc inq19 3 4 (pc inq15 5 1 (pc inq29 3 4 (pc inq7 3 1 (pc inq28 4 8 (pc inq21 19 5 (pc inq22 0 3 (pc inq7 1 1 (pc inq6 21 1 (pc inq7 0 1 (pc inq18 6 4 (pc inq6 22 2 (pc inq22 3 4 (pc inq7 2 1 (pc inq22 7 1 (pc inq43 0 46 pn)))))))))))))))))))))) rfl
set_option maxRecDepth 20000 in
theorem gL_law_X11_life : GoodIn wsL_law (wsV RL 76 RX11 yX11_life wsX11_life) := goodIn_app (goodIn_qw (pc inq28 23 1 (pc inq29 0 2 (pc inq0 5 1 pn))) rfl) ggL_law_X11_life
set_option maxRecDepth 20000 in
theorem ggL_law_X10_toWhom : GoodIn wsL_law wsX10_toWhom := goodIn_qw (pc inq29 10 1 (pc inq17 6 1 (pc inq0 20 1 (pc inq9 6 1 (pc inq15 20 1 (pc inq1 20 1 (pc inq29 11 2 (pc inq18 19 3 (pc inq0 2 1 (pc inq18 22 1 (pc inq29 13 3 (pc inq1 19 1 (pc inq29 16 1 (pc inq5 10 1 (pc inq29 17 2 (pc inq5 9 1 (pc inq5 11 1 (pc inq5 6 1 (pc inq29 19 1 (pc inq27 13 2 (pc inq1 15 1 (pc inq27 15 1 (pc inq5 1 1 (pc inq27 16 5 (pc inq5 0 1 (pc inq27 21 2 (pc inq20 19 2 (pc inq0 19 1 (pc inq20 21 1 (pc inq3 0 1 (pc inq20 22 2 (pc inq9 13 1 (pc inq21 0 1 (pc inq27 23 1 (pc inq20 6 3 (pc inq2 23 1 (pc inq20 9 1 (pc inq9 16 2 (pc inq20 10 1 (pc inq17 18 3 (pc inq2 18 2 (pc inq20 11 4 (pc inq2 17 1 (pc inq2 22 1 (pc inq20 15 3 (pc inq9 12 1 (pc inq9 14 1 (pc inq29 20 4 (pc inq30 0 4 (pc inq5 8 1 (pc inq5 7 1 (pc inq30 4 1 (pc inq9 19 3 (pc inq30 5 4 (pc inq42 0 14 (pc inq44 0 13 (pc inq50 0 6 (pc inq49 0 3 (pc inq46 0 8 pn))))))))))))))))))))))))))))))))))))))))))))))))))))))))))) rfl
set_option maxRecDepth 20000 in
theorem gL_law_X10_toWhom : GoodIn wsL_law (wsV RL 77 RX10 yX10_toWhom wsX10_toWhom) := goodIn_app (goodIn_qw (pc inq29 7 3 (pc inq0 2 1 pn)) rfl) ggL_law_X10_toWhom
