set_option maxRecDepth 20000 in
theorem ggL_law_X10_worn : GoodIn wsL_law wsX10_worn := goodIn_s _ [(857, 1), (414, 1), (198, 1), (52, 1), (220, 1), (199, 1), (421, 3), (2, 1), (424, 1), (20, 1), (222, 1), (200, 3), (858, 3), (51, 1), (861, 1), (150, 4), (991, 14), (1101, 5), (1051, 13)] rfl (by decide +kernel)
set_option maxRecDepth 20000 in
theorem gL_law_X10_worn : GoodIn wsL_law (wsV RL 101 RX10 yX10_worn wsX10_worn) := goodIn_app (goodIn_s _ [(854, 3), (2, 1)] rfl (by decide +kernel)) ggL_law_X10_worn
set_option maxRecDepth 20000 in
theorem ggL_law_X11_worn : GoodIn wsL_law wsX11_worn := goodIn_s _ [(865, 1), (433, 1), (548, 1), (866, 1), (208, 1), (320, 1), (210, 1), (186, 3), (434, 3), (5, 1), (437, 1), (323, 1), (211, 3), (1005, 46)] rfl (by decide +kernel)
set_option maxRecDepth 20000 in
theorem gL_law_X11_worn : GoodIn wsL_law (wsV RL 104 RX11 yX11_worn wsX11_worn) := goodIn_app (goodIn_s _ [(862, 3), (5, 1)] rfl (by decide +kernel)) ggL_law_X11_worn
set_option maxRecDepth 20000 in
theorem ggL_law_X10_whose : GoodIn wsL_law wsX10_whose := goodIn_s _ [(870, 1), (52, 1), (871, 3), (51, 1), (874, 1), (154, 1), (875, 5), (150, 1), (152, 1), (151, 1), (153, 1), (880, 1), (486, 2), (19, 1), (488, 1), (71, 1), (489, 1), (232, 1), (229, 1), (233, 1), (490, 1), (426, 3), (66, 2), (491, 4), (65, 1), (70, 1), (495, 1), (2, 1), (496, 2), (228, 1), (230, 1), (991, 14), (1101, 5), (1051, 13)] rfl (by decide +kernel)
set_option maxRecDepth 20000 in
theorem gL_law_X10_whose : GoodIn wsL_law (wsV RL 105 RX10 yX10_whose wsX10_whose) := goodIn_app (goodIn_s _ [(867, 3), (2, 1)] rfl (by decide +kernel)) ggL_law_X10_whose
set_option maxRecDepth 20000 in
theorem ggL_law_X11_whose : GoodIn wsL_law wsX11_whose := goodIn_s _ [(884, 4), (5, 1), (888, 1), (365, 1), (320, 1), (186, 3), (889, 4), (523, 8), (169, 1), (165, 1), (168, 1), (438, 4), (166, 2), (1005, 46)] rfl (by decide +kernel)
set_option maxRecDepth 20000 in
theorem gL_law_X11_whose : GoodIn wsL_law (wsV RL 108 RX11 yX11_whose wsX11_whose) := goodIn_app (goodIn_s _ [(881, 3), (5, 1)] rfl (by decide +kernel)) ggL_law_X11_whose
set_option maxRecDepth 20000 in
theorem ggL_law_X10_lookAt : GoodIn wsL_law wsX10_lookAt := goodIn_s _ [(896, 1), (52, 1), (897, 3), (51, 1), (900, 1), (154, 1), (901, 2), (872, 8), (150, 1), (152, 1), (151, 1), (153, 1), (880, 1), (486, 2), (19, 1), (488, 1), (71, 1), (489, 1), (232, 1), (229, 1), (233, 1), (490, 1), (426, 3), (66, 2), (491, 4), (65, 1), (70, 1), (495, 1), (2, 1), (496, 2), (228, 1), (230, 1), (903, 16), (991, 14), (1101, 5), (1051, 13)] rfl (by decide +kernel)
set_option maxRecDepth 20000 in
theorem gL_law_X10_lookAt : GoodIn wsL_law (wsV RL 109 RX10 yX10_lookAt wsX10_lookAt) := goodIn_app (goodIn_s _ [(893, 3), (2, 1)] rfl (by decide +kernel)) ggL_law_X10_lookAt
set_option maxRecDepth 20000 in
theorem ggL_law_X11_lookAt : GoodIn wsL_law wsX11_lookAt := goodIn_s _ [(922, 1), (323, 1), (885, 3), (5, 1), (888, 1), (365, 1), (320, 1), (186, 3), (889, 4), (523, 8), (169, 1), (165, 1), (168, 1), (438, 4), (166, 2), (923, 7), (742, 3), (1005, 46)] rfl (by decide +kernel)
set_option maxRecDepth 20000 in
theorem gL_law_X11_lookAt : GoodIn wsL_law (wsV RL 112 RX11 yX11_lookAt wsX11_lookAt) := goodIn_app (goodIn_s _ [(919, 3), (5, 1)] rfl (by decide +kernel)) ggL_law_X11_lookAt
set_option maxRecDepth 20000 in
theorem ggL_law_X10_note : GoodIn wsL_law wsX10_note := goodIn_s _ [(933, 1), (414, 1), (198, 1), (56, 1), (221, 1), (199, 1), (421, 3), (2, 1), (424, 1), (20, 1), (222, 1), (200, 3), (934, 3), (55, 1), (937, 1), (158, 3), (991, 14), (1106, 3), (1051, 13)] rfl (by decide +kernel)
set_option maxRecDepth 20000 in
theorem gL_law_X10_note : GoodIn wsL_law (wsV RL 113 RX10 yX10_note wsX10_note) := goodIn_app (goodIn_s _ [(930, 3), (2, 1)] rfl (by decide +kernel)) ggL_law_X10_note
set_option maxRecDepth 20000 in
theorem ggL_law_X11_note : GoodIn wsL_law wsX11_note := goodIn_s _ [(941, 1), (433, 1), (866, 1), (208, 1), (321, 1), (210, 1), (189, 2), (434, 3), (5, 1), (437, 1), (323, 1), (211, 3), (1005, 46)] rfl (by decide +kernel)
set_option maxRecDepth 20000 in
theorem gL_law_X11_note : GoodIn wsL_law (wsV RL 116 RX11 yX11_note wsX11_note) := goodIn_app (goodIn_s _ [(938, 3), (5, 1)] rfl (by decide +kernel)) ggL_law_X11_note
set_option maxRecDepth 20000 in
theorem ggL_law_X10_tear : GoodIn wsL_law wsX10_tear := goodIn_s _ [(945, 1), (52, 1), (220, 1), (56, 1), (221, 1), (991, 14), (1101, 8)] rfl (by decide +kernel)
set_option maxRecDepth 20000 in
theorem gL_law_X10_tear : GoodIn wsL_law (wsV RL 117 RX10 yX10_tear wsX10_tear) := goodIn_app (goodIn_s _ [(942, 3), (2, 1)] rfl (by decide +kernel)) ggL_law_X10_tear
set_option maxRecDepth 20000 in
theorem ggL_law_X11_tear : GoodIn wsL_law wsX11_tear := goodIn_s _ [(949, 1), (320, 2), (1005, 46)] rfl (by decide +kernel)
set_option maxRecDepth 20000 in
theorem gL_law_X11_tear : GoodIn wsL_law (wsV RL 120 RX11 yX11_tear wsX11_tear) := goodIn_app (goodIn_s _ [(946, 3), (5, 1)] rfl (by decide +kernel)) ggL_law_X11_tear
set_option maxRecDepth 20000 in
theorem ggL_law_X10_judge : GoodIn wsL_law wsX10_judge := goodIn_s _ [(953, 1), (56, 1), (28, 1), (954, 3), (55, 1), (957, 1), (158, 1), (958, 1), (159, 2), (991, 14), (1106, 3), (1071, 8)] rfl (by decide +kernel)
set_option maxRecDepth 20000 in
theorem gL_law_X10_judge : GoodIn wsL_law (wsV RL 121 RX10 yX10_judge wsX10_judge) := goodIn_app (goodIn_s _ [(950, 3), (2, 1)] rfl (by decide +kernel)) ggL_law_X10_judge
