set_option maxRecDepth 20000 in
theorem ggL_law_X11_quill : GoodIn wsL_law wsX11_quill := goodIn_s _ [(432, 2), (165, 3), (171, 1), (208, 1), (434, 3), (5, 1), (437, 1), (323, 1), (211, 3), (438, 4), (1005, 46)] rfl (by decide +kernel)
set_option maxRecDepth 20000 in
theorem gL_law_X11_quill : GoodIn wsL_law (wsV RL 35 RX11 yX11_quill wsX11_quill) := goodIn_app (goodIn_s _ [(429, 3), (5, 1)] rfl (by decide +kernel)) ggL_law_X11_quill
set_option maxRecDepth 20000 in
theorem ggL_law_X10_hand : GoodIn wsL_law wsX10_hand := goodIn_s _ [(445, 1), (414, 1), (20, 1), (446, 3), (28, 1), (449, 2), (198, 1), (451, 3), (2, 1), (454, 1), (380, 1), (991, 14), (1051, 13), (1071, 8)] rfl (by decide +kernel)
set_option maxRecDepth 20000 in
theorem gL_law_X10_hand : GoodIn wsL_law (wsV RL 36 RX10 yX10_hand wsX10_hand) := goodIn_app (goodIn_s _ [(442, 3), (2, 1)] rfl (by decide +kernel)) ggL_law_X10_hand
set_option maxRecDepth 20000 in
theorem ggL_law_X11_hand : GoodIn wsL_law wsX11_hand := goodIn_s _ [(458, 1), (433, 1), (168, 4), (208, 1), (459, 3), (5, 1), (462, 1), (365, 1), (211, 3), (1005, 46)] rfl (by decide +kernel)
set_option maxRecDepth 20000 in
theorem gL_law_X11_hand : GoodIn wsL_law (wsV RL 39 RX11 yX11_hand wsX11_hand) := goodIn_app (goodIn_s _ [(455, 3), (5, 1)] rfl (by decide +kernel)) ggL_law_X11_hand
set_option maxRecDepth 20000 in
theorem ggL_law_X10_write : GoodIn wsL_law wsX10_write := goodIn_s _ [(466, 1), (414, 1), (198, 2), (32, 1), (28, 1), (421, 3), (2, 1), (424, 1), (20, 1), (222, 1), (451, 4), (380, 1), (200, 3), (467, 4), (381, 1), (471, 4), (31, 1), (475, 1), (101, 3), (476, 3), (27, 1), (479, 1), (88, 3), (480, 1), (235, 3), (91, 4), (481, 4), (95, 1), (485, 3), (19, 1), (488, 1), (71, 1), (489, 1), (232, 1), (229, 1), (233, 1), (490, 1), (426, 3), (66, 2), (491, 4), (65, 1), (70, 1), (495, 3), (228, 1), (230, 1), (498, 4), (72, 1), (502, 3), (991, 14), (1051, 13), (1071, 11)] rfl (by decide +kernel)
set_option maxRecDepth 20000 in
theorem gL_law_X10_write : GoodIn wsL_law (wsV RL 40 RX10 yX10_write wsX10_write) := goodIn_app (goodIn_s _ [(463, 3), (2, 1)] rfl (by decide +kernel)) ggL_law_X10_write
set_option maxRecDepth 20000 in
theorem ggL_law_X11_write : GoodIn wsL_law wsX11_write := goodIn_s _ [(508, 1), (433, 1), (509, 1), (208, 1), (171, 1), (510, 1), (210, 1), (434, 3), (5, 1), (437, 1), (323, 1), (211, 3), (459, 4), (365, 1), (511, 4), (322, 1), (183, 1), (515, 16), (169, 1), (165, 1), (168, 1), (438, 4), (166, 2), (531, 4), (170, 1), (535, 1), (1005, 46)] rfl (by decide +kernel)
set_option maxRecDepth 20000 in
theorem gL_law_X11_write : GoodIn wsL_law (wsV RL 44 RX11 yX11_write wsX11_write) := goodIn_app (goodIn_s _ [(505, 3), (5, 1)] rfl (by decide +kernel)) ggL_law_X11_write
set_option maxRecDepth 20000 in
theorem ggL_law_X10_dry : GoodIn wsL_law wsX10_dry := goodIn_s _ [(539, 1), (414, 1), (198, 1), (32, 1), (28, 1), (420, 4), (2, 1), (424, 1), (20, 1), (222, 1), (200, 3), (472, 3), (31, 1), (475, 1), (101, 3), (476, 3), (27, 1), (479, 1), (88, 3), (480, 1), (235, 3), (91, 4), (540, 4), (232, 1), (229, 1), (233, 1), (991, 14), (1071, 8), (1051, 13), (1079, 3)] rfl (by decide +kernel)
set_option maxRecDepth 20000 in
theorem gL_law_X10_dry : GoodIn wsL_law (wsV RL 45 RX10 yX10_dry wsX10_dry) := goodIn_app (goodIn_s _ [(536, 3), (2, 1)] rfl (by decide +kernel)) ggL_law_X10_dry
set_option maxRecDepth 20000 in
theorem ggL_law_X11_dry : GoodIn wsL_law wsX11_dry := goodIn_s _ [(547, 1), (433, 1), (548, 1), (208, 1), (171, 1), (434, 3), (5, 1), (437, 1), (323, 1), (211, 3), (511, 4), (322, 1), (183, 1), (549, 3), (1005, 46)] rfl (by decide +kernel)
set_option maxRecDepth 20000 in
theorem gL_law_X11_dry : GoodIn wsL_law (wsV RL 48 RX11 yX11_dry wsX11_dry) := goodIn_app (goodIn_s _ [(544, 3), (5, 1)] rfl (by decide +kernel)) ggL_law_X11_dry
set_option maxRecDepth 20000 in
theorem ggL_law_X10_mend : GoodIn wsL_law wsX10_mend := goodIn_s _ [(555, 1), (414, 1), (28, 1), (556, 1), (199, 1), (32, 1), (418, 1), (421, 3), (2, 1), (424, 1), (20, 1), (222, 1), (557, 3), (27, 1), (560, 1), (90, 1), (561, 4), (89, 1), (95, 1), (565, 1), (467, 4), (381, 1), (471, 4), (31, 1), (475, 1), (101, 3), (476, 4), (88, 1), (480, 1), (235, 3), (91, 4), (566, 5), (228, 3), (571, 1), (991, 14), (1071, 8), (1051, 13), (1079, 3)] rfl (by decide +kernel)
set_option maxRecDepth 20000 in
theorem gL_law_X10_mend : GoodIn wsL_law (wsV RL 49 RX10 yX10_mend wsX10_mend) := goodIn_app (goodIn_s _ [(552, 3), (2, 1)] rfl (by decide +kernel)) ggL_law_X10_mend
set_option maxRecDepth 20000 in
theorem ggL_law_X11_mend : GoodIn wsL_law wsX11_mend := goodIn_s _ [(575, 1), (433, 1), (576, 1), (171, 1), (510, 1), (210, 1), (434, 3), (5, 1), (437, 1), (323, 1), (211, 3), (577, 8), (193, 1), (511, 4), (322, 1), (183, 1), (585, 4), (364, 1), (589, 4), (1005, 46)] rfl (by decide +kernel)
set_option maxRecDepth 20000 in
theorem gL_law_X11_mend : GoodIn wsL_law (wsV RL 52 RX11 yX11_mend wsX11_mend) := goodIn_app (goodIn_s _ [(572, 3), (5, 1)] rfl (by decide +kernel)) ggL_law_X11_mend
set_option maxRecDepth 20000 in
theorem ggL_law_X10_broaden : GoodIn wsL_law wsX10_broaden := goodIn_s _ [(596, 1), (414, 1), (28, 1), (419, 1), (556, 1), (32, 1), (382, 1), (421, 3), (2, 1), (424, 1), (20, 1), (222, 1), (472, 3), (31, 1), (475, 1), (101, 3), (476, 3), (27, 1), (479, 1), (88, 3), (480, 1), (235, 3), (91, 4), (991, 14), (1071, 8), (1051, 13), (1079, 3)] rfl (by decide +kernel)
set_option maxRecDepth 20000 in
theorem gL_law_X10_broaden : GoodIn wsL_law (wsV RL 53 RX10 yX10_broaden wsX10_broaden) := goodIn_app (goodIn_s _ [(593, 3), (2, 1)] rfl (by decide +kernel)) ggL_law_X10_broaden
set_option maxRecDepth 20000 in
theorem ggL_law_X11_broaden : GoodIn wsL_law wsX11_broaden := goodIn_s _ [(600, 1), (433, 1), (171, 1), (576, 1), (434, 3), (5, 1), (437, 1), (323, 1), (211, 3), (511, 4), (322, 1), (183, 1), (589, 4), (1005, 46)] rfl (by decide +kernel)
set_option maxRecDepth 20000 in
theorem gL_law_X11_broaden : GoodIn wsL_law (wsV RL 56 RX11 yX11_broaden wsX11_broaden) := goodIn_app (goodIn_s _ [(597, 3), (5, 1)] rfl (by decide +kernel)) ggL_law_X11_broaden
