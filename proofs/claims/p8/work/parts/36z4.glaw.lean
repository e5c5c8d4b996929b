set_option maxRecDepth 20000 in
theorem ggL_law_X11_toWhom : GoodIn wsL_law wsX11_toWhom := goodIn_s _ [(732, 1), (433, 1), (323, 1), (365, 1), (733, 2), (459, 3), (5, 1), (462, 1), (211, 3), (735, 10), (676, 4), (171, 1), (680, 4), (523, 8), (169, 1), (165, 1), (168, 1), (438, 4), (166, 2), (531, 4), (170, 1), (535, 1), (1005, 46)] rfl (by decide +kernel)
set_option maxRecDepth 20000 in
theorem gL_law_X11_toWhom : GoodIn wsL_law (wsV RL 80 RX11 yX11_toWhom wsX11_toWhom) := goodIn_app (goodIn_s _ [(729, 3), (5, 1)] rfl (by decide +kernel)) ggL_law_X11_toWhom
set_option maxRecDepth 20000 in
theorem ggL_law_X10_fastest : GoodIn wsL_law wsX10_fastest := goodIn_s _ [(748, 1), (414, 1), (198, 1), (48, 1), (28, 1), (749, 2), (451, 3), (2, 1), (454, 1), (20, 1), (380, 1), (200, 3), (751, 3), (47, 1), (754, 1), (144, 1), (140, 1), (755, 1), (228, 3), (141, 1), (136, 2), (756, 1), (477, 2), (27, 1), (479, 1), (88, 3), (480, 1), (235, 3), (91, 4), (757, 4), (139, 1), (138, 1), (761, 1), (142, 1), (762, 11), (558, 7), (95, 1), (565, 1), (773, 1), (567, 5), (774, 1), (482, 6), (19, 1), (488, 1), (71, 1), (489, 1), (232, 2), (490, 1), (426, 3), (66, 2), (491, 4), (65, 1), (70, 1), (495, 7), (72, 1), (502, 3), (991, 14), (1094, 7), (1051, 13), (1071, 8)] rfl (by decide +kernel)
set_option maxRecDepth 20000 in
theorem gL_law_X10_fastest : GoodIn wsL_law (wsV RL 81 RX10 yX10_fastest wsX10_fastest) := goodIn_app (goodIn_s _ [(745, 3), (2, 1)] rfl (by decide +kernel)) ggL_law_X10_fastest
set_option maxRecDepth 20000 in
theorem ggL_law_X11_fastest : GoodIn wsL_law wsX11_fastest := goodIn_s _ [(778, 1), (433, 1), (779, 1), (208, 1), (780, 2), (459, 3), (5, 1), (462, 1), (365, 1), (211, 3), (782, 4), (184, 1), (171, 1), (786, 5), (323, 1), (577, 8), (193, 1), (585, 4), (364, 1), (589, 4), (519, 12), (169, 1), (165, 1), (168, 1), (438, 4), (166, 2), (531, 4), (170, 1), (535, 1), (791, 4), (1005, 46)] rfl (by decide +kernel)
set_option maxRecDepth 20000 in
theorem gL_law_X11_fastest : GoodIn wsL_law (wsV RL 84 RX11 yX11_fastest wsX11_fastest) := goodIn_app (goodIn_s _ [(775, 3), (5, 1)] rfl (by decide +kernel)) ggL_law_X11_fastest
set_option maxRecDepth 20000 in
theorem ggL_law_X10_byTurns : GoodIn wsL_law wsX10_byTurns := goodIn_s _ [(798, 1), (414, 1), (40, 1), (421, 3), (2, 1), (424, 1), (20, 1), (222, 1), (451, 4), (380, 1), (799, 3), (39, 1), (802, 1), (120, 2), (669, 1), (664, 1), (670, 1), (499, 2), (19, 1), (501, 1), (72, 1), (502, 2), (229, 1), (504, 1), (671, 1), (486, 3), (71, 1), (489, 1), (232, 2), (490, 1), (426, 3), (66, 2), (491, 4), (65, 1), (70, 1), (803, 4), (119, 1), (495, 3), (228, 1), (230, 1), (541, 3), (991, 14), (1051, 13), (1085, 3), (1071, 8)] rfl (by decide +kernel)
set_option maxRecDepth 20000 in
theorem gL_law_X10_byTurns : GoodIn wsL_law (wsV RL 85 RX10 yX10_byTurns wsX10_byTurns) := goodIn_app (goodIn_s _ [(795, 3), (2, 1)] rfl (by decide +kernel)) ggL_law_X10_byTurns
set_option maxRecDepth 20000 in
theorem ggL_law_X11_byTurns : GoodIn wsL_law wsX11_byTurns := goodIn_s _ [(810, 1), (433, 4), (5, 1), (437, 1), (323, 1), (211, 3), (459, 4), (365, 1), (811, 4), (185, 1), (171, 1), (531, 4), (170, 1), (535, 1), (523, 8), (169, 1), (165, 1), (168, 1), (438, 4), (166, 2), (549, 3), (1005, 46)] rfl (by decide +kernel)
set_option maxRecDepth 20000 in
theorem gL_law_X11_byTurns : GoodIn wsL_law (wsV RL 88 RX11 yX11_byTurns wsX11_byTurns) := goodIn_app (goodIn_s _ [(807, 3), (5, 1)] rfl (by decide +kernel)) ggL_law_X11_byTurns
set_option maxRecDepth 20000 in
theorem ggL_law_X10_dearer : GoodIn wsL_law wsX10_dearer := goodIn_s _ [(818, 2), (40, 1), (820, 3), (39, 1), (823, 1), (120, 1), (824, 3), (694, 1), (661, 3), (121, 1), (664, 7), (499, 2), (19, 1), (501, 1), (72, 1), (502, 2), (229, 1), (504, 1), (671, 1), (486, 3), (71, 1), (489, 1), (232, 2), (490, 1), (426, 3), (66, 2), (491, 4), (65, 1), (70, 1), (495, 1), (2, 1), (496, 2), (228, 1), (230, 1), (991, 14), (1085, 3), (1051, 13), (1071, 8)] rfl (by decide +kernel)
set_option maxRecDepth 20000 in
theorem gL_law_X10_dearer : GoodIn wsL_law (wsV RL 89 RX10 yX10_dearer wsX10_dearer) := goodIn_app (goodIn_s _ [(815, 3), (2, 1)] rfl (by decide +kernel)) ggL_law_X10_dearer
set_option maxRecDepth 20000 in
theorem ggL_law_X11_dearer : GoodIn wsL_law wsX11_dearer := goodIn_s _ [(830, 2), (323, 1), (365, 1), (165, 1), (676, 3), (5, 1), (679, 1), (171, 1), (680, 4), (523, 8), (169, 1), (168, 1), (438, 4), (166, 2), (531, 4), (170, 1), (535, 1), (211, 3), (1005, 46)] rfl (by decide +kernel)
set_option maxRecDepth 20000 in
theorem gL_law_X11_dearer : GoodIn wsL_law (wsV RL 92 RX11 yX11_dearer wsX11_dearer) := goodIn_app (goodIn_s _ [(827, 3), (5, 1)] rfl (by decide +kernel)) ggL_law_X11_dearer
set_option maxRecDepth 20000 in
theorem ggL_law_X10_geese : GoodIn wsL_law wsX10_geese := goodIn_s _ [(835, 1), (414, 1), (836, 1), (198, 1), (40, 1), (421, 3), (2, 1), (424, 1), (20, 1), (222, 1), (451, 4), (380, 1), (200, 3), (688, 3), (39, 1), (691, 1), (121, 1), (692, 2), (228, 3), (694, 1), (661, 8), (120, 1), (669, 2), (499, 2), (19, 1), (501, 1), (72, 1), (502, 3), (671, 1), (486, 3), (71, 1), (489, 1), (232, 2), (490, 1), (426, 3), (66, 2), (491, 4), (65, 1), (70, 1), (495, 3), (991, 14), (1051, 13), (1085, 3), (1071, 8)] rfl (by decide +kernel)
set_option maxRecDepth 20000 in
theorem gL_law_X10_geese : GoodIn wsL_law (wsV RL 93 RX10 yX10_geese wsX10_geese) := goodIn_app (goodIn_s _ [(832, 3), (2, 1)] rfl (by decide +kernel)) ggL_law_X10_geese
set_option maxRecDepth 20000 in
theorem ggL_law_X11_geese : GoodIn wsL_law wsX11_geese := goodIn_s _ [(840, 1), (433, 1), (841, 1), (208, 1), (434, 3), (5, 1), (437, 1), (323, 1), (211, 3), (459, 4), (365, 1), (699, 4), (171, 1), (676, 8), (523, 8), (169, 1), (165, 1), (168, 1), (438, 4), (166, 2), (531, 4), (170, 1), (535, 1), (1005, 46)] rfl (by decide +kernel)
set_option maxRecDepth 20000 in
theorem gL_law_X11_geese : GoodIn wsL_law (wsV RL 96 RX11 yX11_geese wsX11_geese) := goodIn_app (goodIn_s _ [(837, 3), (5, 1)] rfl (by decide +kernel)) ggL_law_X11_geese
set_option maxRecDepth 20000 in
theorem ggL_law_X10_crooked : GoodIn wsL_law wsX10_crooked := goodIn_s _ [(845, 1), (198, 1), (28, 1), (382, 1), (497, 1), (228, 3), (846, 2), (200, 2), (2, 1), (202, 1), (991, 14), (1071, 8)] rfl (by decide +kernel)
set_option maxRecDepth 20000 in
theorem gL_law_X10_crooked : GoodIn wsL_law (wsV RL 97 RX10 yX10_crooked wsX10_crooked) := goodIn_app (goodIn_s _ [(842, 3), (2, 1)] rfl (by decide +kernel)) ggL_law_X10_crooked
set_option maxRecDepth 20000 in
theorem ggL_law_X11_crooked : GoodIn wsL_law wsX11_crooked := goodIn_s _ [(851, 1), (630, 1), (852, 1), (208, 1), (171, 1), (853, 1), (211, 2), (5, 1), (213, 1), (1005, 46)] rfl (by decide +kernel)
set_option maxRecDepth 20000 in
theorem gL_law_X11_crooked : GoodIn wsL_law (wsV RL 100 RX11 yX11_crooked wsX11_crooked) := goodIn_app (goodIn_s _ [(848, 3), (5, 1)] rfl (by decide +kernel)) ggL_law_X11_crooked
