set_option maxRecDepth 20000 in
theorem ggL_law_X10_worn : GoodIn wsL_law wsX10_worn := goodIn_r _ [857, 414, 198, 52, 220, 199, 421, 422, 423, 2, 424, 20, 222, 200, 201, 202, 858, 859, 860, 51, 861, 150, 151, 152, 153, 991, 992, 993, 994, 995, 996, 997, 998, 999, 1000, 1001, 1002, 1003, 1004, 1101, 1102, 1103, 1104, 1105, 1051, 1052, 1053, 1054, 1055, 1056, 1057, 1058, 1059, 1060, 1061, 1062, 1063] (by decide +kernel) (by decide +kernel)
set_option maxRecDepth 20000 in
theorem gL_law_X10_worn : GoodIn wsL_law (wsV RL 101 RX10 yX10_worn wsX10_worn) := goodIn_app (goodIn_of _ (by decide +kernel)) ggL_law_X10_worn
set_option maxRecDepth 20000 in
theorem ggL_law_X11_worn : GoodIn wsL_law wsX11_worn := goodIn_r _ [865, 433, 548, 866, 208, 320, 210, 186, 187, 188, 434, 435, 436, 5, 437, 323, 211, 212, 213, 1005, 1006, 1007, 1008, 1009, 1010, 1011, 1012, 1013, 1014, 1015, 1016, 1017, 1018, 1019, 1020, 1021, 1022, 1023, 1024, 1025, 1026, 1027, 1028, 1029, 1030, 1031, 1032, 1033, 1034, 1035, 1036, 1037, 1038, 1039, 1040, 1041, 1042, 1043, 1044, 1045, 1046, 1047, 1048, 1049, 1050] (by decide +kernel) (by decide +kernel)
set_option maxRecDepth 20000 in
theorem gL_law_X11_worn : GoodIn wsL_law (wsV RL 104 RX11 yX11_worn wsX11_worn) := goodIn_app (goodIn_of _ (by decide +kernel)) ggL_law_X11_worn
set_option maxRecDepth 20000 in
theorem ggL_law_X10_whose : GoodIn wsL_law wsX10_whose := goodIn_r _ [870, 52, 871, 872, 873, 51, 874, 154, 875, 876, 877, 878, 879, 150, 152, 151, 153, 880, 486, 487, 19, 488, 71, 489, 232, 229, 233, 490, 426, 427, 428, 66, 67, 491, 492, 493, 494, 65, 70, 495, 2, 496, 497, 228, 230, 991, 992, 993, 994, 995, 996, 997, 998, 999, 1000, 1001, 1002, 1003, 1004, 1101, 1102, 1103, 1104, 1105, 1051, 1052, 1053, 1054, 1055, 1056, 1057, 1058, 1059, 1060, 1061, 1062, 1063] (by decide +kernel) (by decide +kernel)
set_option maxRecDepth 20000 in
theorem gL_law_X10_whose : GoodIn wsL_law (wsV RL 105 RX10 yX10_whose wsX10_whose) := goodIn_app (goodIn_of _ (by decide +kernel)) ggL_law_X10_whose
set_option maxRecDepth 20000 in
theorem ggL_law_X11_whose : GoodIn wsL_law wsX11_whose := goodIn_r _ [884, 885, 886, 887, 5, 888, 365, 320, 186, 187, 188, 889, 890, 891, 892, 523, 524, 525, 526, 527, 528, 529, 530, 169, 165, 168, 438, 439, 440, 441, 166, 167, 1005, 1006, 1007, 1008, 1009, 1010, 1011, 1012, 1013, 1014, 1015, 1016, 1017, 1018, 1019, 1020, 1021, 1022, 1023, 1024, 1025, 1026, 1027, 1028, 1029, 1030, 1031, 1032, 1033, 1034, 1035, 1036, 1037, 1038, 1039, 1040, 1041, 1042, 1043, 1044, 1045, 1046, 1047, 1048, 1049, 1050] (by decide +kernel) (by decide +kernel)
set_option maxRecDepth 20000 in
theorem gL_law_X11_whose : GoodIn wsL_law (wsV RL 108 RX11 yX11_whose wsX11_whose) := goodIn_app (goodIn_of _ (by decide +kernel)) ggL_law_X11_whose
set_option maxRecDepth 20000 in
theorem ggL_law_X10_lookAt : GoodIn wsL_law wsX10_lookAt := goodIn_r _ [896, 52, 897, 898, 899, 51, 900, 154, 901, 902, 872, 873, 874, 875, 876, 877, 878, 879, 150, 152, 151, 153, 880, 486, 487, 19, 488, 71, 489, 232, 229, 233, 490, 426, 427, 428, 66, 67, 491, 492, 493, 494, 65, 70, 495, 2, 496, 497, 228, 230, 903, 904, 905, 906, 907, 908, 909, 910, 911, 912, 913, 914, 915, 916, 917, 918, 991, 992, 993, 994, 995, 996, 997, 998, 999, 1000, 1001, 1002, 1003, 1004, 1101, 1102, 1103, 1104, 1105, 1051, 1052, 1053, 1054, 1055, 1056, 1057, 1058, 1059, 1060, 1061, 1062, 1063] (by decide +kernel) (by decide +kernel)
set_option maxRecDepth 20000 in
theorem gL_law_X10_lookAt : GoodIn wsL_law (wsV RL 109 RX10 yX10_lookAt wsX10_lookAt) := goodIn_app (goodIn_of _ (by decide +kernel)) ggL_law_X10_lookAt
set_option maxRecDepth 20000 in
theorem ggL_law_X11_lookAt : GoodIn wsL_law wsX11_lookAt := goodIn_r _ [922, 323, 885, 886, 887, 5, 888, 365, 320, 186, 187, 188, 889, 890, 891, 892, 523, 524, 525, 526, 527, 528, 529, 530, 169, 165, 168, 438, 439, 440, 441, 166, 167, 923, 924, 925, 926, 927, 928, 929, 742, 743, 744, 1005, 1006, 1007, 1008, 1009, 1010, 1011, 1012, 1013, 1014, 1015, 1016, 1017, 1018, 1019, 1020, 1021, 1022, 1023, 1024, 1025, 1026, 1027, 1028, 1029, 1030, 1031, 1032, 1033, 1034, 1035, 1036, 1037, 1038, 1039, 1040, 1041, 1042, 1043, 1044, 1045, 1046, 1047, 1048, 1049, 1050] (by decide +kernel) (by decide +kernel)
set_option maxRecDepth 20000 in
theorem gL_law_X11_lookAt : GoodIn wsL_law (wsV RL 112 RX11 yX11_lookAt wsX11_lookAt) := goodIn_app (goodIn_of _ (by decide +kernel)) ggL_law_X11_lookAt
set_option maxRecDepth 20000 in
theorem ggL_law_X10_note : GoodIn wsL_law wsX10_note := goodIn_r _ [933, 414, 198, 56, 221, 199, 421, 422, 423, 2, 424, 20, 222, 200, 201, 202, 934, 935, 936, 55, 937, 158, 159, 160, 991, 992, 993, 994, 995, 996, 997, 998, 999, 1000, 1001, 1002, 1003, 1004, 1106, 1107, 1108, 1051, 1052, 1053, 1054, 1055, 1056, 1057, 1058, 1059, 1060, 1061, 1062, 1063] (by decide +kernel) (by decide +kernel)
set_option maxRecDepth 20000 in
theorem gL_law_X10_note : GoodIn wsL_law (wsV RL 113 RX10 yX10_note wsX10_note) := goodIn_app (goodIn_of _ (by decide +kernel)) ggL_law_X10_note
set_option maxRecDepth 20000 in
theorem ggL_law_X11_note : GoodIn wsL_law wsX11_note := goodIn_r _ [941, 433, 866, 208, 321, 210, 189, 190, 434, 435, 436, 5, 437, 323, 211, 212, 213, 1005, 1006, 1007, 1008, 1009, 1010, 1011, 1012, 1013, 1014, 1015, 1016, 1017, 1018, 1019, 1020, 1021, 1022, 1023, 1024, 1025, 1026, 1027, 1028, 1029, 1030, 1031, 1032, 1033, 1034, 1035, 1036, 1037, 1038, 1039, 1040, 1041, 1042, 1043, 1044, 1045, 1046, 1047, 1048, 1049, 1050] (by decide +kernel) (by decide +kernel)
set_option maxRecDepth 20000 in
theorem gL_law_X11_note : GoodIn wsL_law (wsV RL 116 RX11 yX11_note wsX11_note) := goodIn_app (goodIn_of _ (by decide +kernel)) ggL_law_X11_note
set_option maxRecDepth 20000 in
theorem ggL_law_X10_tear : GoodIn wsL_law wsX10_tear := goodIn_r _ [945, 52, 220, 56, 221, 991, 992, 993, 994, 995, 996, 997, 998, 999, 1000, 1001, 1002, 1003, 1004, 1101, 1102, 1103, 1104, 1105, 1106, 1107, 1108] (by decide +kernel) (by decide +kernel)
set_option maxRecDepth 20000 in
theorem gL_law_X10_tear : GoodIn wsL_law (wsV RL 117 RX10 yX10_tear wsX10_tear) := goodIn_app (goodIn_of _ (by decide +kernel)) ggL_law_X10_tear
set_option maxRecDepth 20000 in
theorem ggL_law_X11_tear : GoodIn wsL_law wsX11_tear := goodIn_r _ [949, 320, 321, 1005, 1006, 1007, 1008, 1009, 1010, 1011, 1012, 1013, 1014, 1015, 1016, 1017, 1018, 1019, 1020, 1021, 1022, 1023, 1024, 1025, 1026, 1027, 1028, 1029, 1030, 1031, 1032, 1033, 1034, 1035, 1036, 1037, 1038, 1039, 1040, 1041, 1042, 1043, 1044, 1045, 1046, 1047, 1048, 1049, 1050] (by decide +kernel) (by decide +kernel)
set_option maxRecDepth 20000 in
theorem gL_law_X11_tear : GoodIn wsL_law (wsV RL 120 RX11 yX11_tear wsX11_tear) := goodIn_app (goodIn_of _ (by decide +kernel)) ggL_law_X11_tear
set_option maxRecDepth 20000 in
theorem ggL_law_X10_judge : GoodIn wsL_law wsX10_judge := goodIn_r _ [953, 56, 28, 954, 955, 956, 55, 957, 158, 958, 159, 160, 991, 992, 993, 994, 995, 996, 997, 998, 999, 1000, 1001, 1002, 1003, 1004, 1106, 1107, 1108, 1071, 1072, 1073, 1074, 1075, 1076, 1077, 1078] (by decide +kernel) (by decide +kernel)
set_option maxRecDepth 20000 in
theorem gL_law_X10_judge : GoodIn wsL_law (wsV RL 121 RX10 yX10_judge wsX10_judge) := goodIn_app (goodIn_of _ (by decide +kernel)) ggL_law_X10_judge
