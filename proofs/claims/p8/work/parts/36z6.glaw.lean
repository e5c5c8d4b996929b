set_option maxRecDepth 20000 in
theorem ggL_law_X11_judge : GoodIn wsL_law wsX11_judge := goodIn_s _ [(962, 1), (321, 1), (171, 1), (189, 2), (1005, 46)] rfl (by decide +kernel)
set_option maxRecDepth 20000 in
theorem gL_law_X11_judge : GoodIn wsL_law (wsV RL 124 RX11 yX11_judge wsX11_judge) := goodIn_app (goodIn_s _ [(959, 3), (5, 1)] rfl (by decide +kernel)) ggL_law_X11_judge
set_option maxRecDepth 20000 in
theorem ggL_law_X10_seed : GoodIn wsL_law wsX10_seed := goodIn_s _ [(966, 1), (198, 1), (16, 1), (991, 14)] rfl (by decide +kernel)
set_option maxRecDepth 20000 in
theorem gL_law_X10_seed : GoodIn wsL_law (wsV RL 125 RX10 yX10_seed wsX10_seed) := goodIn_app (goodIn_s _ [(963, 3), (2, 1)] rfl (by decide +kernel)) ggL_law_X10_seed
set_option maxRecDepth 20000 in
theorem ggL_law_X11_seed : GoodIn wsL_law wsX11_seed := goodIn_s _ [(970, 1), (208, 1), (639, 1), (1005, 46)] rfl (by decide +kernel)
set_option maxRecDepth 20000 in
theorem gL_law_X11_seed : GoodIn wsL_law (wsV RL 128 RX11 yX11_seed wsX11_seed) := goodIn_app (goodIn_s _ [(967, 3), (5, 1)] rfl (by decide +kernel)) ggL_law_X11_seed
set_option maxRecDepth 20000 in
theorem ggL_law_X10_keep : GoodIn wsL_law wsX10_keep := goodIn_s _ [(974, 1), (414, 1), (36, 1), (975, 1), (28, 1), (976, 1), (16, 1), (977, 1), (32, 1), (200, 2), (2, 1), (202, 1), (978, 1), (477, 2), (27, 1), (479, 1), (88, 3), (480, 1), (235, 3), (91, 4), (305, 3), (31, 1), (308, 1), (103, 1), (991, 14), (1082, 3), (1071, 11)] rfl (by decide +kernel)
set_option maxRecDepth 20000 in
theorem gL_law_X10_keep : GoodIn wsL_law (wsV RL 129 RX10 yX10_keep wsX10_keep) := goodIn_app (goodIn_s _ [(971, 3), (2, 1)] rfl (by decide +kernel)) ggL_law_X10_keep
set_option maxRecDepth 20000 in
theorem ggL_law_X11_keep : GoodIn wsL_law wsX11_keep := goodIn_s _ [(982, 1), (433, 1), (191, 1), (171, 1), (639, 1), (192, 1), (322, 1), (211, 2), (5, 1), (213, 1), (1005, 46)] rfl (by decide +kernel)
set_option maxRecDepth 20000 in
theorem gL_law_X11_keep : GoodIn wsL_law (wsV RL 132 RX11 yX11_keep wsX11_keep) := goodIn_app (goodIn_s _ [(979, 3), (5, 1)] rfl (by decide +kernel)) ggL_law_X11_keep
set_option maxRecDepth 20000 in
theorem ggL_law_X10_goBack : GoodIn wsL_law wsX10_goBack := goodIn_s _ [(986, 1), (414, 1), (36, 1), (977, 1), (556, 1), (28, 1), (975, 2), (16, 1), (32, 1), (200, 2), (2, 1), (202, 1), (978, 1), (477, 2), (27, 1), (479, 1), (88, 3), (480, 1), (235, 3), (91, 4), (305, 3), (31, 1), (308, 1), (103, 1), (991, 14), (1082, 3), (1071, 11)] rfl (by decide +kernel)
set_option maxRecDepth 20000 in
theorem gL_law_X10_goBack : GoodIn wsL_law (wsV RL 133 RX10 yX10_goBack wsX10_goBack) := goodIn_app (goodIn_s _ [(983, 3), (2, 1)] rfl (by decide +kernel)) ggL_law_X10_goBack
set_option maxRecDepth 20000 in
theorem ggL_law_X11_goBack : GoodIn wsL_law wsX11_goBack := goodIn_s _ [(990, 1), (433, 1), (192, 1), (576, 1), (171, 1), (191, 1), (639, 1), (322, 1), (211, 2), (5, 1), (213, 1), (1005, 46)] rfl (by decide +kernel)
set_option maxRecDepth 20000 in
theorem gL_law_X11_goBack : GoodIn wsL_law (wsV RL 136 RX11 yX11_goBack wsX11_goBack) := goodIn_app (goodIn_s _ [(987, 3), (5, 1)] rfl (by decide +kernel)) ggL_law_X11_goBack
