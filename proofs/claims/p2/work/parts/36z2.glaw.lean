set_option maxRecDepth 20000 in
theorem ggL_law_X11_quill : GoodIn wsL_law wsX11_quill := goodIn_r _ [432, 433, 165, 166, 167, 171, 208, 434, 435, 436, 5, 437, 323, 211, 212, 213, 438, 439, 440, 441, 1005, 1006, 1007, 1008, 1009, 1010, 1011, 1012, 1013, 1014, 1015, 1016, 1017, 1018, 1019, 1020, 1021, 1022, 1023, 1024, 1025, 1026, 1027, 1028, 1029, 1030, 1031, 1032, 1033, 1034, 1035, 1036, 1037, 1038, 1039, 1040, 1041, 1042, 1043, 1044, 1045, 1046, 1047, 1048, 1049, 1050] (by decide +kernel) (by decide +kernel)
set_option maxRecDepth 20000 in
theorem gL_law_X11_quill : GoodIn wsL_law (wsV RL 35 RX11 yX11_quill wsX11_quill) := goodIn_app (goodIn_of _ (by decide +kernel)) ggL_law_X11_quill
set_option maxRecDepth 20000 in
theorem ggL_law_X10_hand : GoodIn wsL_law wsX10_hand := goodIn_r _ [445, 414, 20, 446, 447, 448, 28, 449, 450, 198, 451, 452, 453, 2, 454, 380, 991, 992, 993, 994, 995, 996, 997, 998, 999, 1000, 1001, 1002, 1003, 1004, 1051, 1052, 1053, 1054, 1055, 1056, 1057, 1058, 1059, 1060, 1061, 1062, 1063, 1071, 1072, 1073, 1074, 1075, 1076, 1077, 1078] (by decide +kernel) (by decide +kernel)
set_option maxRecDepth 20000 in
theorem gL_law_X10_hand : GoodIn wsL_law (wsV RL 36 RX10 yX10_hand wsX10_hand) := goodIn_app (goodIn_of _ (by decide +kernel)) ggL_law_X10_hand
set_option maxRecDepth 20000 in
theorem ggL_law_X11_hand : GoodIn wsL_law wsX11_hand := goodIn_r _ [458, 433, 168, 169, 170, 171, 208, 459, 460, 461, 5, 462, 365, 211, 212, 213, 1005, 1006, 1007, 1008, 1009, 1010, 1011, 1012, 1013, 1014, 1015, 1016, 1017, 1018, 1019, 1020, 1021, 1022, 1023, 1024, 1025, 1026, 1027, 1028, 1029, 1030, 1031, 1032, 1033, 1034, 1035, 1036, 1037, 1038, 1039, 1040, 1041, 1042, 1043, 1044, 1045, 1046, 1047, 1048, 1049, 1050] (by decide +kernel) (by decide +kernel)
set_option maxRecDepth 20000 in
theorem gL_law_X11_hand : GoodIn wsL_law (wsV RL 39 RX11 yX11_hand wsX11_hand) := goodIn_app (goodIn_of _ (by decide +kernel)) ggL_law_X11_hand
set_option maxRecDepth 20000 in
theorem ggL_law_X10_write : GoodIn wsL_law wsX10_write := goodIn_r _ [466, 414, 198, 199, 32, 28, 421, 422, 423, 2, 424, 20, 222, 451, 452, 453, 454, 380, 200, 201, 202, 467, 468, 469, 470, 381, 471, 472, 473, 474, 31, 475, 101, 102, 103, 476, 477, 478, 27, 479, 88, 89, 90, 480, 235, 236, 237, 91, 92, 93, 94, 481, 482, 483, 484, 95, 485, 486, 487, 19, 488, 71, 489, 232, 229, 233, 490, 426, 427, 428, 66, 67, 491, 492, 493, 494, 65, 70, 495, 496, 497, 228, 230, 498, 499, 500, 501, 72, 502, 503, 504, 991, 992, 993, 994, 995, 996, 997, 998, 999, 1000, 1001, 1002, 1003, 1004, 1051, 1052, 1053, 1054, 1055, 1056, 1057, 1058, 1059, 1060, 1061, 1062, 1063, 1071, 1072, 1073, 1074, 1075, 1076, 1077, 1078, 1079, 1080, 1081] (by decide +kernel) (by decide +kernel)
set_option maxRecDepth 20000 in
theorem gL_law_X10_write : GoodIn wsL_law (wsV RL 40 RX10 yX10_write wsX10_write) := goodIn_app (goodIn_of _ (by decide +kernel)) ggL_law_X10_write
set_option maxRecDepth 20000 in
theorem ggL_law_X11_write : GoodIn wsL_law wsX11_write := goodIn_r _ [508, 433, 509, 208, 171, 510, 210, 434, 435, 436, 5, 437, 323, 211, 212, 213, 459, 460, 461, 462, 365, 511, 512, 513, 514, 322, 183, 515, 516, 517, 518, 519, 520, 521, 522, 523, 524, 525, 526, 527, 528, 529, 530, 169, 165, 168, 438, 439, 440, 441, 166, 167, 531, 532, 533, 534, 170, 535, 1005, 1006, 1007, 1008, 1009, 1010, 1011, 1012, 1013, 1014, 1015, 1016, 1017, 1018, 1019, 1020, 1021, 1022, 1023, 1024, 1025, 1026, 1027, 1028, 1029, 1030, 1031, 1032, 1033, 1034, 1035, 1036, 1037, 1038, 1039, 1040, 1041, 1042, 1043, 1044, 1045, 1046, 1047, 1048, 1049, 1050] (by decide +kernel) (by decide +kernel)
set_option maxRecDepth 20000 in
theorem gL_law_X11_write : GoodIn wsL_law (wsV RL 44 RX11 yX11_write wsX11_write) := goodIn_app (goodIn_of _ (by decide +kernel)) ggL_law_X11_write
set_option maxRecDepth 20000 in
theorem ggL_law_X10_dry : GoodIn wsL_law wsX10_dry := goodIn_r _ [539, 414, 198, 32, 28, 420, 421, 422, 423, 2, 424, 20, 222, 200, 201, 202, 472, 473, 474, 31, 475, 101, 102, 103, 476, 477, 478, 27, 479, 88, 89, 90, 480, 235, 236, 237, 91, 92, 93, 94, 540, 541, 542, 543, 232, 229, 233, 991, 992, 993, 994, 995, 996, 997, 998, 999, 1000, 1001, 1002, 1003, 1004, 1071, 1072, 1073, 1074, 1075, 1076, 1077, 1078, 1051, 1052, 1053, 1054, 1055, 1056, 1057, 1058, 1059, 1060, 1061, 1062, 1063, 1079, 1080, 1081] (by decide +kernel) (by decide +kernel)
set_option maxRecDepth 20000 in
theorem gL_law_X10_dry : GoodIn wsL_law (wsV RL 45 RX10 yX10_dry wsX10_dry) := goodIn_app (goodIn_of _ (by decide +kernel)) ggL_law_X10_dry
set_option maxRecDepth 20000 in
theorem ggL_law_X11_dry : GoodIn wsL_law wsX11_dry := goodIn_r _ [547, 433, 548, 208, 171, 434, 435, 436, 5, 437, 323, 211, 212, 213, 511, 512, 513, 514, 322, 183, 549, 550, 551, 1005, 1006, 1007, 1008, 1009, 1010, 1011, 1012, 1013, 1014, 1015, 1016, 1017, 1018, 1019, 1020, 1021, 1022, 1023, 1024, 1025, 1026, 1027, 1028, 1029, 1030, 1031, 1032, 1033, 1034, 1035, 1036, 1037, 1038, 1039, 1040, 1041, 1042, 1043, 1044, 1045, 1046, 1047, 1048, 1049, 1050] (by decide +kernel) (by decide +kernel)
set_option maxRecDepth 20000 in
theorem gL_law_X11_dry : GoodIn wsL_law (wsV RL 48 RX11 yX11_dry wsX11_dry) := goodIn_app (goodIn_of _ (by decide +kernel)) ggL_law_X11_dry
set_option maxRecDepth 20000 in
theorem ggL_law_X10_mend : GoodIn wsL_law wsX10_mend := goodIn_r _ [555, 414, 28, 556, 199, 32, 418, 421, 422, 423, 2, 424, 20, 222, 557, 558, 559, 27, 560, 90, 561, 562, 563, 564, 89, 95, 565, 467, 468, 469, 470, 381, 471, 472, 473, 474, 31, 475, 101, 102, 103, 476, 477, 478, 479, 88, 480, 235, 236, 237, 91, 92, 93, 94, 566, 567, 568, 569, 570, 228, 229, 230, 571, 991, 992, 993, 994, 995, 996, 997, 998, 999, 1000, 1001, 1002, 1003, 1004, 1071, 1072, 1073, 1074, 1075, 1076, 1077, 1078, 1051, 1052, 1053, 1054, 1055, 1056, 1057, 1058, 1059, 1060, 1061, 1062, 1063, 1079, 1080, 1081] (by decide +kernel) (by decide +kernel)
set_option maxRecDepth 20000 in
theorem gL_law_X10_mend : GoodIn wsL_law (wsV RL 49 RX10 yX10_mend wsX10_mend) := goodIn_app (goodIn_of _ (by decide +kernel)) ggL_law_X10_mend
set_option maxRecDepth 20000 in
theorem ggL_law_X11_mend : GoodIn wsL_law wsX11_mend := goodIn_r _ [575, 433, 576, 171, 510, 210, 434, 435, 436, 5, 437, 323, 211, 212, 213, 577, 578, 579, 580, 581, 582, 583, 584, 193, 511, 512, 513, 514, 322, 183, 585, 586, 587, 588, 364, 589, 590, 591, 592, 1005, 1006, 1007, 1008, 1009, 1010, 1011, 1012, 1013, 1014, 1015, 1016, 1017, 1018, 1019, 1020, 1021, 1022, 1023, 1024, 1025, 1026, 1027, 1028, 1029, 1030, 1031, 1032, 1033, 1034, 1035, 1036, 1037, 1038, 1039, 1040, 1041, 1042, 1043, 1044, 1045, 1046, 1047, 1048, 1049, 1050] (by decide +kernel) (by decide +kernel)
set_option maxRecDepth 20000 in
theorem gL_law_X11_mend : GoodIn wsL_law (wsV RL 52 RX11 yX11_mend wsX11_mend) := goodIn_app (goodIn_of _ (by decide +kernel)) ggL_law_X11_mend
set_option maxRecDepth 20000 in
theorem ggL_law_X10_broaden : GoodIn wsL_law wsX10_broaden := goodIn_r _ [596, 414, 28, 419, 556, 32, 382, 421, 422, 423, 2, 424, 20, 222, 472, 473, 474, 31, 475, 101, 102, 103, 476, 477, 478, 27, 479, 88, 89, 90, 480, 235, 236, 237, 91, 92, 93, 94, 991, 992, 993, 994, 995, 996, 997, 998, 999, 1000, 1001, 1002, 1003, 1004, 1071, 1072, 1073, 1074, 1075, 1076, 1077, 1078, 1051, 1052, 1053, 1054, 1055, 1056, 1057, 1058, 1059, 1060, 1061, 1062, 1063, 1079, 1080, 1081] (by decide +kernel) (by decide +kernel)
set_option maxRecDepth 20000 in
theorem gL_law_X10_broaden : GoodIn wsL_law (wsV RL 53 RX10 yX10_broaden wsX10_broaden) := goodIn_app (goodIn_of _ (by decide +kernel)) ggL_law_X10_broaden
set_option maxRecDepth 20000 in
theorem ggL_law_X11_broaden : GoodIn wsL_law wsX11_broaden := goodIn_r _ [600, 433, 171, 576, 434, 435, 436, 5, 437, 323, 211, 212, 213, 511, 512, 513, 514, 322, 183, 589, 590, 591, 592, 1005, 1006, 1007, 1008, 1009, 1010, 1011, 1012, 1013, 1014, 1015, 1016, 1017, 1018, 1019, 1020, 1021, 1022, 1023, 1024, 1025, 1026, 1027, 1028, 1029, 1030, 1031, 1032, 1033, 1034, 1035, 1036, 1037, 1038, 1039, 1040, 1041, 1042, 1043, 1044, 1045, 1046, 1047, 1048, 1049, 1050] (by decide +kernel) (by decide +kernel)
set_option maxRecDepth 20000 in
theorem gL_law_X11_broaden : GoodIn wsL_law (wsV RL 56 RX11 yX11_broaden wsX11_broaden) := goodIn_app (goodIn_of _ (by decide +kernel)) ggL_law_X11_broaden
