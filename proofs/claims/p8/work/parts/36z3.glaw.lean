set_option maxRecDepth 20000 in
theorem ggL_law_X10_whet : GoodIn wsL_law wsX10_whet := goodIn_s _ [(604, 1), (20, 1), (605, 1), (556, 1), (199, 1), (32, 1), (28, 1), (382, 1), (381, 1), (467, 3), (2, 1), (470, 5), (31, 1), (475, 1), (101, 3), (476, 3), (27, 1), (479, 1), (88, 3), (480, 1), (235, 3), (91, 4), (991, 14), (1051, 13), (1071, 11)] rfl (by decide +kernel)
set_option maxRecDepth 20000 in
theorem gL_law_X10_whet : GoodIn wsL_law (wsV RL 57 RX10 yX10_whet wsX10_whet) := goodIn_app (goodIn_s _ [(601, 3), (2, 1)] rfl (by decide +kernel)) ggL_law_X10_whet
set_option maxRecDepth 20000 in
theorem ggL_law_X11_whet : GoodIn wsL_law wsX11_whet := goodIn_s _ [(609, 1), (193, 1), (576, 1), (171, 1), (510, 1), (210, 1), (511, 3), (5, 1), (514, 1), (322, 1), (183, 1), (1005, 46)] rfl (by decide +kernel)
set_option maxRecDepth 20000 in
theorem gL_law_X11_whet : GoodIn wsL_law (wsV RL 60 RX11 yX11_whet wsX11_whet) := goodIn_app (goodIn_s _ [(606, 3), (5, 1)] rfl (by decide +kernel)) ggL_law_X11_whet
set_option maxRecDepth 20000 in
theorem ggL_law_X10_drift : GoodIn wsL_law wsX10_drift := goodIn_s _ [(613, 1), (198, 1), (20, 1), (605, 1), (556, 1), (199, 1), (32, 1), (28, 1), (222, 1), (380, 2), (200, 2), (2, 1), (202, 1), (467, 8), (31, 1), (475, 1), (101, 3), (476, 3), (27, 1), (479, 1), (88, 3), (480, 1), (235, 3), (91, 4), (614, 4), (420, 1), (618, 4), (16, 1), (622, 4), (557, 8), (95, 1), (565, 6), (228, 3), (571, 1), (540, 4), (232, 2), (481, 7), (19, 1), (488, 1), (71, 1), (489, 2), (426, 3), (66, 2), (491, 4), (65, 1), (70, 1), (495, 7), (72, 1), (502, 3), (991, 14), (1051, 13), (1071, 11)] rfl (by decide +kernel)
set_option maxRecDepth 20000 in
theorem gL_law_X10_drift : GoodIn wsL_law (wsV RL 61 RX10 yX10_drift wsX10_drift) := goodIn_app (goodIn_s _ [(610, 3), (2, 1)] rfl (by decide +kernel)) ggL_law_X10_drift
set_option maxRecDepth 20000 in
theorem ggL_law_X11_drift : GoodIn wsL_law wsX11_drift := goodIn_s _ [(629, 2), (208, 1), (193, 1), (576, 1), (171, 1), (510, 1), (210, 1), (323, 1), (365, 1), (211, 2), (5, 1), (213, 1), (511, 4), (322, 1), (183, 1), (631, 13), (577, 12), (364, 1), (589, 4), (549, 3), (515, 16), (169, 1), (165, 1), (168, 1), (438, 4), (166, 2), (531, 4), (170, 1), (535, 1), (1005, 46)] rfl (by decide +kernel)
set_option maxRecDepth 20000 in
theorem gL_law_X11_drift : GoodIn wsL_law (wsV RL 64 RX11 yX11_drift wsX11_drift) := goodIn_app (goodIn_s _ [(626, 3), (5, 1)] rfl (by decide +kernel)) ggL_law_X11_drift
set_option maxRecDepth 20000 in
theorem ggL_law_X10_undo : GoodIn wsL_law wsX10_undo := goodIn_s _ [(647, 1), (32, 1), (383, 1), (556, 1), (28, 1), (648, 3), (31, 1), (651, 1), (103, 1), (101, 2), (476, 3), (27, 1), (479, 1), (88, 3), (480, 1), (235, 3), (91, 4), (991, 14), (1079, 3), (1071, 8)] rfl (by decide +kernel)
set_option maxRecDepth 20000 in
theorem gL_law_X10_undo : GoodIn wsL_law (wsV RL 65 RX10 yX10_undo wsX10_undo) := goodIn_app (goodIn_s _ [(644, 3), (2, 1)] rfl (by decide +kernel)) ggL_law_X10_undo
set_option maxRecDepth 20000 in
theorem ggL_law_X11_undo : GoodIn wsL_law wsX11_undo := goodIn_s _ [(655, 1), (322, 1), (576, 1), (171, 1), (183, 1), (1005, 46)] rfl (by decide +kernel)
set_option maxRecDepth 20000 in
theorem gL_law_X11_undo : GoodIn wsL_law (wsV RL 68 RX11 yX11_undo wsX11_undo) := goodIn_app (goodIn_s _ [(652, 3), (5, 1)] rfl (by decide +kernel)) ggL_law_X11_undo
set_option maxRecDepth 20000 in
theorem ggL_law_X10_goodPages : GoodIn wsL_law wsX10_goodPages := goodIn_s _ [(659, 1), (414, 1), (40, 1), (421, 3), (2, 1), (424, 1), (20, 1), (222, 1), (451, 4), (380, 1), (660, 3), (39, 1), (663, 1), (121, 1), (664, 5), (120, 1), (669, 2), (499, 2), (19, 1), (501, 1), (72, 1), (502, 2), (229, 1), (504, 1), (671, 1), (486, 3), (71, 1), (489, 1), (232, 2), (490, 1), (426, 3), (66, 2), (491, 4), (65, 1), (70, 1), (495, 3), (228, 1), (230, 1), (991, 14), (1051, 13), (1085, 3), (1071, 8)] rfl (by decide +kernel)
set_option maxRecDepth 20000 in
theorem gL_law_X10_goodPages : GoodIn wsL_law (wsV RL 69 RX10 yX10_goodPages wsX10_goodPages) := goodIn_app (goodIn_s _ [(656, 3), (2, 1)] rfl (by decide +kernel)) ggL_law_X10_goodPages
set_option maxRecDepth 20000 in
theorem ggL_law_X11_goodPages : GoodIn wsL_law wsX11_goodPages := goodIn_s _ [(675, 1), (433, 4), (5, 1), (437, 1), (323, 1), (211, 3), (459, 4), (365, 1), (676, 4), (171, 1), (680, 4), (523, 8), (169, 1), (165, 1), (168, 1), (438, 4), (166, 2), (531, 4), (170, 1), (535, 1), (1005, 46)] rfl (by decide +kernel)
set_option maxRecDepth 20000 in
theorem gL_law_X11_goodPages : GoodIn wsL_law (wsV RL 72 RX11 yX11_goodPages wsX11_goodPages) := goodIn_app (goodIn_s _ [(672, 3), (5, 1)] rfl (by decide +kernel)) ggL_law_X11_goodPages
set_option maxRecDepth 20000 in
theorem ggL_law_X10_life : GoodIn wsL_law wsX10_life := goodIn_s _ [(687, 1), (414, 1), (40, 1), (421, 3), (2, 1), (424, 1), (20, 1), (222, 1), (451, 4), (380, 1), (688, 3), (39, 1), (691, 1), (121, 1), (692, 2), (228, 3), (694, 1), (661, 8), (120, 1), (669, 2), (499, 2), (19, 1), (501, 1), (72, 1), (502, 3), (671, 1), (486, 3), (71, 1), (489, 1), (232, 2), (490, 1), (426, 3), (66, 2), (491, 4), (65, 1), (70, 1), (495, 3), (991, 14), (1051, 13), (1085, 3), (1071, 8)] rfl (by decide +kernel)
set_option maxRecDepth 20000 in
theorem gL_law_X10_life : GoodIn wsL_law (wsV RL 73 RX10 yX10_life wsX10_life) := goodIn_app (goodIn_s _ [(684, 3), (2, 1)] rfl (by decide +kernel)) ggL_law_X10_life
set_option maxRecDepth 20000 in
theorem ggL_law_X11_life : GoodIn wsL_law wsX11_life := goodIn_s _ [(698, 1), (433, 4), (5, 1), (437, 1), (323, 1), (211, 3), (459, 4), (365, 1), (699, 4), (171, 1), (676, 8), (523, 8), (169, 1), (165, 1), (168, 1), (438, 4), (166, 2), (531, 4), (170, 1), (535, 1), (1005, 46)] rfl (by decide +kernel)
set_option maxRecDepth 20000 in
theorem gL_law_X11_life : GoodIn wsL_law (wsV RL 76 RX11 yX11_life wsX11_life) := goodIn_app (goodIn_s _ [(695, 3), (5, 1)] rfl (by decide +kernel)) ggL_law_X11_life
set_option maxRecDepth 20000 in
theorem ggL_law_X10_toWhom : GoodIn wsL_law wsX10_toWhom := goodIn_s _ [(706, 1), (414, 1), (20, 1), (222, 1), (380, 1), (44, 1), (707, 2), (451, 3), (2, 1), (454, 1), (709, 3), (43, 1), (712, 1), (130, 1), (713, 2), (129, 1), (131, 1), (126, 1), (715, 1), (661, 2), (39, 1), (663, 1), (121, 1), (664, 5), (120, 1), (669, 2), (499, 2), (19, 1), (501, 1), (72, 1), (502, 2), (229, 1), (504, 1), (671, 1), (486, 3), (71, 1), (489, 1), (232, 2), (490, 1), (426, 3), (66, 2), (491, 4), (65, 1), (70, 1), (495, 3), (228, 1), (230, 1), (716, 8), (128, 1), (127, 1), (724, 1), (235, 3), (725, 4), (991, 14), (1051, 13), (1088, 6), (1085, 3), (1071, 8)] rfl (by decide +kernel)
set_option maxRecDepth 20000 in
theorem gL_law_X10_toWhom : GoodIn wsL_law (wsV RL 77 RX10 yX10_toWhom wsX10_toWhom) := goodIn_app (goodIn_s _ [(703, 3), (2, 1)] rfl (by decide +kernel)) ggL_law_X10_toWhom
