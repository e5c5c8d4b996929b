set_option maxRecDepth 20000 in
theorem ggL_law_X10_init : GoodIn wsL_law wsX10_init := goodIn_s _ [(8, 153), (991, 14), (1051, 58)] rfl (by decide +kernel)
set_option maxRecDepth 20000 in
theorem gL_law_X10_init : GoodIn wsL_law (wsX10_init) := ggL_law_X10_init
set_option maxRecDepth 20000 in
theorem ggL_law_X11_init : GoodIn wsL_law wsX11_init := goodIn_s _ [(163, 2), (10, 3), (165, 27), (112, 1), (192, 2), (1005, 46)] rfl (by decide +kernel)
set_option maxRecDepth 20000 in
theorem gL_law_X11_init : GoodIn wsL_law (wsX11_init) := ggL_law_X11_init
set_option maxRecDepth 20000 in
theorem ggL_law_X10_feed : GoodIn wsL_law wsX10_feed := goodIn_s _ [(197, 2), (14, 1), (199, 1), (13, 1), (200, 2), (2, 1), (202, 1), (991, 14)] rfl (by decide +kernel)
set_option maxRecDepth 20000 in
theorem gL_law_X10_feed : GoodIn wsL_law (wsV RL 13 RX10 yX10_feed wsX10_feed) := goodIn_app (goodIn_s _ [(194, 3), (2, 1)] rfl (by decide +kernel)) ggL_law_X10_feed
set_option maxRecDepth 20000 in
theorem ggL_law_X11_feed : GoodIn wsL_law wsX11_feed := goodIn_s _ [(206, 5), (172, 1), (211, 2), (5, 1), (213, 1), (1005, 46)] rfl (by decide +kernel)
set_option maxRecDepth 20000 in
theorem gL_law_X11_feed : GoodIn wsL_law (wsV RL 17 RX11 yX11_feed wsX11_feed) := goodIn_app (goodIn_s _ [(203, 3), (5, 1)] rfl (by decide +kernel)) ggL_law_X11_feed
set_option maxRecDepth 20000 in
theorem ggL_law_X10_office : GoodIn wsL_law wsX10_office := goodIn_s _ [(217, 1), (14, 1), (24, 1), (13, 1), (218, 1), (15, 1), (20, 1), (219, 1), (28, 1), (32, 1), (36, 1), (52, 1), (220, 1), (56, 1), (221, 5), (23, 1), (226, 1), (77, 1), (82, 2), (78, 1), (227, 7), (81, 1), (80, 1), (234, 7), (19, 1), (241, 1), (60, 5), (242, 11), (79, 1), (253, 29), (201, 1), (2, 1), (202, 1), (282, 8), (65, 5), (290, 4), (70, 3), (294, 8), (27, 1), (302, 1), (88, 3), (95, 1), (303, 1), (91, 1), (304, 1), (92, 3), (305, 3), (31, 1), (308, 1), (103, 1), (309, 3), (35, 1), (312, 1), (113, 1), (991, 14), (1064, 7), (1101, 8), (1051, 13), (1071, 14)] rfl (by decide +kernel)
set_option maxRecDepth 20000 in
theorem gL_law_X10_office : GoodIn wsL_law (wsV RL 18 RX10 yX10_office wsX10_office) := goodIn_app (goodIn_s _ [(214, 3), (2, 1)] rfl (by decide +kernel)) ggL_law_X10_office
set_option maxRecDepth 20000 in
theorem ggL_law_X11_office : GoodIn wsL_law wsX11_office := goodIn_s _ [(316, 1), (173, 1), (317, 1), (174, 1), (318, 2), (209, 1), (320, 3), (192, 1), (323, 4), (5, 1), (327, 1), (172, 1), (328, 24), (211, 3), (352, 4), (175, 5), (356, 4), (180, 3), (360, 4), (193, 1), (364, 2), (171, 1), (165, 6), (1005, 46)] rfl (by decide +kernel)
set_option maxRecDepth 20000 in
theorem gL_law_X11_office : GoodIn wsL_law (wsV RL 22 RX11 yX11_office wsX11_office) := goodIn_app (goodIn_s _ [(313, 3), (5, 1)] rfl (by decide +kernel)) ggL_law_X11_office
set_option maxRecDepth 20000 in
theorem ggL_law_X10_fault : GoodIn wsL_law wsX10_fault := goodIn_s _ [(369, 1), (15, 1), (991, 14)] rfl (by decide +kernel)
set_option maxRecDepth 20000 in
theorem gL_law_X10_fault : GoodIn wsL_law (wsV RL 23 RX10 yX10_fault wsX10_fault) := goodIn_app (goodIn_s _ [(366, 3), (2, 1)] rfl (by decide +kernel)) ggL_law_X10_fault
set_option maxRecDepth 20000 in
theorem ggL_law_X11_fault : GoodIn wsL_law wsX11_fault := goodIn_s _ [(373, 1), (173, 1), (1005, 46)] rfl (by decide +kernel)
set_option maxRecDepth 20000 in
theorem gL_law_X11_fault : GoodIn wsL_law (wsV RL 26 RX11 yX11_fault wsX11_fault) := goodIn_app (goodIn_s _ [(370, 3), (5, 1)] rfl (by decide +kernel)) ggL_law_X11_fault
set_option maxRecDepth 20000 in
theorem ggL_law_X10_told : GoodIn wsL_law wsX10_told := goodIn_s _ [(377, 1), (20, 1), (378, 2), (222, 1), (380, 1), (14, 1), (28, 1), (381, 2), (52, 1), (220, 1), (56, 1), (221, 1), (32, 1), (383, 1), (198, 1), (384, 3), (27, 1), (387, 1), (95, 1), (388, 1), (93, 1), (389, 4), (94, 1), (393, 5), (92, 1), (991, 14), (1051, 13), (1071, 8), (1101, 8), (1079, 3)] rfl (by decide +kernel)
set_option maxRecDepth 20000 in
theorem gL_law_X10_told : GoodIn wsL_law (wsV RL 27 RX10 yX10_told wsX10_told) := goodIn_app (goodIn_s _ [(374, 3), (2, 1)] rfl (by decide +kernel)) ggL_law_X10_told
set_option maxRecDepth 20000 in
theorem ggL_law_X11_told : GoodIn wsL_law wsX11_told := goodIn_s _ [(401, 1), (193, 1), (364, 1), (323, 1), (365, 1), (209, 1), (171, 1), (320, 3), (208, 1), (402, 3), (5, 1), (405, 5), (1005, 46)] rfl (by decide +kernel)
set_option maxRecDepth 20000 in
theorem gL_law_X11_told : GoodIn wsL_law (wsV RL 30 RX11 yX11_told wsX11_told) := goodIn_app (goodIn_s _ [(398, 3), (5, 1)] rfl (by decide +kernel)) ggL_law_X11_told
set_option maxRecDepth 20000 in
theorem ggL_law_X10_quill : GoodIn wsL_law wsX10_quill := goodIn_s _ [(413, 2), (20, 1), (415, 3), (28, 1), (418, 3), (198, 1), (421, 3), (2, 1), (424, 1), (222, 1), (425, 3), (19, 1), (428, 1), (66, 2), (991, 14), (1051, 13), (1071, 8)] rfl (by decide +kernel)
set_option maxRecDepth 20000 in
theorem gL_law_X10_quill : GoodIn wsL_law (wsV RL 31 RX10 yX10_quill wsX10_quill) := goodIn_app (goodIn_s _ [(410, 3), (2, 1)] rfl (by decide +kernel)) ggL_law_X10_quill
