set_option maxRecDepth 20000 in
theorem gt_wsL_law_r1 : GoodIn lw_tbl wsL_law_r1 := goodIn_r _ [75, 76, 60, 864, 865, 71, 77, 78, 79, 80, 81, 82, 158, 395, 396, 397, 398, 83, 84, 61, 399, 159, 160, 62] (by decide +kernel) (by decide +kernel)
set_option maxRecDepth 20000 in
theorem gt_wsL_law_r2 : GoodIn lw_tbl wsL_law_r2 := goodIn_r _ [400, 191, 192, 63, 401, 237, 238, 64, 402, 257, 258, 65, 403, 279, 280, 66, 404, 295, 296, 67, 405, 322, 323, 68] (by decide +kernel) (by decide +kernel)
set_option maxRecDepth 20000 in
theorem gt_wsL_law_r3 : GoodIn lw_tbl wsL_law_r3 := goodIn_r _ [406, 355, 356, 69, 407, 378, 379, 70, 408, 86, 87, 88, 89, 92, 95, 99, 107, 114, 117, 119, 121, 123, 125, 127] (by decide +kernel) (by decide +kernel)
set_option maxRecDepth 20000 in
theorem gt_wsL_law_r4 : GoodIn lw_tbl wsL_law_r4 := goodIn_r _ [129, 162, 163, 164, 165, 167, 169, 171, 172, 173, 174, 175, 193, 194, 195, 196, 197, 199, 202, 206, 210, 215, 217, 219] (by decide +kernel) (by decide +kernel)
set_option maxRecDepth 20000 in
theorem gt_wsL_law_r5 : GoodIn lw_tbl wsL_law_r5 := goodIn_r _ [239, 240, 241, 242, 243, 246, 247, 248, 245, 259, 260, 261, 262, 263, 265, 267, 278, 269, 264, 281, 282, 283, 284, 287] (by decide +kernel) (by decide +kernel)
set_option maxRecDepth 20000 in
theorem gt_wsL_law_r6 : GoodIn lw_tbl wsL_law_r6 := goodIn_r _ [285, 286, 297, 298, 299, 300, 301, 303, 307, 308, 305, 306, 324, 325, 326, 327, 328, 331, 333, 335, 338, 339, 336, 329] (by decide +kernel) (by decide +kernel)
set_option maxRecDepth 20000 in
theorem gt_wsL_law_r7 : GoodIn lw_tbl wsL_law_r7 := goodIn_r _ [337, 330, 357, 358, 359, 360, 361, 364, 365, 366, 363, 381, 382, 383, 384, 386, 387, 866, 867, 868, 869, 873, 874, 875] (by decide +kernel) (by decide +kernel)
set_option maxRecDepth 20000 in
theorem gt_wsL_law_r8 : GoodIn lw_tbl wsL_law_r8 := goodIn_r _ [877, 878, 879, 880, 882, 884, 888, 890, 891, 892, 893, 894, 896, 897, 898, 900, 903, 906, 908, 909, 910, 912, 913, 914] (by decide +kernel) (by decide +kernel)
set_option maxRecDepth 20000 in
theorem gt_wsL_law_r9 : GoodIn lw_tbl wsL_law_r9 := goodIn_r _ [915, 870, 438, 439, 440, 441, 445, 446, 442, 443, 444, 1009, 1010, 1011, 1012, 1013, 1017, 883, 1018, 1014, 1015, 1016, 447, 448] (by decide +kernel) (by decide +kernel)
set_option maxRecDepth 20000 in
theorem gt_wsL_law_r10 : GoodIn lw_tbl wsL_law_r10 := goodIn_r _ [449, 450, 170, 168, 362, 385, 102, 451, 452, 453, 454, 459, 460, 72, 461, 462, 463, 464, 465, 467, 466, 73, 455, 456] (by decide +kernel) (by decide +kernel)
set_option maxRecDepth 20000 in
theorem gt_wsL_law_r11 : GoodIn lw_tbl wsL_law_r11 := goodIn_r _ [457, 458, 468, 470, 0, 471, 472, 474, 1, 475, 90, 488, 490, 103, 508, 510, 110, 516, 518, 476, 478, 2, 479, 480] (by decide +kernel) (by decide +kernel)
set_option maxRecDepth 20000 in
theorem gt_wsL_law_r12 : GoodIn lw_tbl wsL_law_r12 := goodIn_r _ [482, 3, 483, 484, 486, 4, 487, 492, 494, 5, 495, 496, 498, 6, 499, 500, 501, 502, 504, 505, 506, 507, 512, 513] (by decide +kernel) (by decide +kernel)
set_option maxRecDepth 20000 in
theorem gt_wsL_law_r13 : GoodIn lw_tbl wsL_law_r13 := goodIn_r _ [514, 515, 520, 521, 522, 523, 524, 525, 526, 527, 528, 529, 530, 531, 532, 122, 124, 533, 534, 535, 536, 537, 538, 539] (by decide +kernel) (by decide +kernel)
set_option maxRecDepth 20000 in
theorem gt_wsL_law_r14 : GoodIn lw_tbl wsL_law_r14 := goodIn_r _ [540, 1019, 1020, 1021, 1022, 885, 889, 895, 907, 911, 899, 872, 1023, 1025, 22, 1026, 1027, 1029, 23, 1030, 1031, 1033, 24, 1034] (by decide +kernel) (by decide +kernel)
set_option maxRecDepth 20000 in
theorem gt_wsL_law_r15 : GoodIn lw_tbl wsL_law_r15 := goodIn_r _ [1035, 1037, 25, 1038, 1039, 1041, 26, 1042, 886, 1043, 1045, 27, 1046, 1047, 1048, 887, 1049, 1051, 28, 1052, 1053, 1055, 29, 1056] (by decide +kernel) (by decide +kernel)
set_option maxRecDepth 20000 in
theorem gt_wsL_law_r16 : GoodIn lw_tbl wsL_law_r16 := goodIn_r _ [1057, 1059, 30, 1060, 871, 876, 541, 542, 543, 544, 1061, 1062, 1063, 1064, 545, 546, 547, 548, 94, 97, 111, 198, 201, 249] (by decide +kernel) (by decide +kernel)
set_option maxRecDepth 20000 in
theorem gt_wsL_law_r17 : GoodIn lw_tbl wsL_law_r17 := goodIn_r _ [549, 550, 551, 552, 113, 553, 554, 555, 556, 557, 558, 559, 560, 106, 1065, 1066, 1067, 1068, 1069, 1071, 31, 1072, 1073, 1075] (by decide +kernel) (by decide +kernel)
set_option maxRecDepth 20000 in
theorem gt_wsL_law_r18 : GoodIn lw_tbl wsL_law_r18 := goodIn_r _ [32, 1076, 561, 562, 563, 564, 569, 115, 118, 120, 205, 209, 214, 565, 567, 7, 568, 570, 571, 572, 573, 1077, 1078, 1079] (by decide +kernel) (by decide +kernel)
set_option maxRecDepth 20000 in
theorem gt_wsL_law_r19 : GoodIn lw_tbl wsL_law_r19 := goodIn_r _ [1080, 1085, 1081, 1083, 33, 1084, 1086, 1088, 34, 1089, 574, 575, 576, 577, 126, 128, 130, 216, 218, 578, 580, 8, 581, 1090] (by decide +kernel) (by decide +kernel)
set_option maxRecDepth 20000 in
theorem gt_wsL_law_r20 : GoodIn lw_tbl wsL_law_r20 := goodIn_r _ [1091, 1092, 1093, 1094, 1096, 35, 1097, 582, 583, 584, 585, 586, 588, 9, 589, 590, 591, 592, 593, 594, 595, 596, 597, 598] (by decide +kernel) (by decide +kernel)
set_option maxRecDepth 20000 in
theorem gt_wsL_law_r21 : GoodIn lw_tbl wsL_law_r21 := goodIn_r _ [599, 600, 601, 602, 603, 604, 605, 606, 607, 609, 608, 610, 611, 612, 613, 615, 616, 617, 618, 619, 620, 621, 622, 623] (by decide +kernel) (by decide +kernel)
set_option maxRecDepth 20000 in
theorem gt_wsL_law_r22 : GoodIn lw_tbl wsL_law_r22 := goodIn_r _ [624, 1098, 1099, 1100, 1101, 1102, 1103, 1104, 1106, 36, 1107, 1108, 1110, 37, 1111, 1112, 1114, 38, 1115, 1116, 1118, 39, 1119, 1120] (by decide +kernel) (by decide +kernel)
set_option maxRecDepth 20000 in
theorem gt_wsL_law_r23 : GoodIn lw_tbl wsL_law_r23 := goodIn_r _ [1122, 40, 1123, 1124, 1126, 41, 1127, 1128, 625, 626, 627, 628, 629, 630, 631, 632, 1129, 1130, 1131, 1132, 1133, 1134, 1135, 1136] (by decide +kernel) (by decide +kernel)
set_option maxRecDepth 20000 in
theorem gt_wsL_law_r24 : GoodIn lw_tbl wsL_law_r24 := goodIn_r _ [633, 634, 635, 636, 645, 637, 638, 639, 640, 641, 642, 643, 644, 93, 646, 647, 648, 649, 650, 98, 1137, 1138, 1139, 1140] (by decide +kernel) (by decide +kernel)
set_option maxRecDepth 20000 in
theorem gt_wsL_law_r25 : GoodIn lw_tbl wsL_law_r25 := goodIn_r _ [1149, 1141, 1143, 42, 1144, 1145, 1147, 43, 1148, 1150, 1152, 44, 1153, 1154, 1156, 45, 1157, 651, 652, 653, 654, 1158, 1159, 1160] (by decide +kernel) (by decide +kernel)
set_option maxRecDepth 20000 in
theorem gt_wsL_law_r26 : GoodIn lw_tbl wsL_law_r26 := goodIn_r _ [1161, 655, 656, 657, 658, 91, 1162, 1163, 1164, 1165, 659, 660, 661, 662, 663, 665, 10, 666, 667, 669, 11, 670, 671, 672] (by decide +kernel) (by decide +kernel)
set_option maxRecDepth 20000 in
theorem gt_wsL_law_r27 : GoodIn lw_tbl wsL_law_r27 := goodIn_r _ [673, 674, 1166, 1167, 1168, 1169, 1170, 1171, 1173, 46, 1174, 1175, 1177, 47, 1178, 881, 1179, 1180, 1181, 1182, 675, 676, 677, 678] (by decide +kernel) (by decide +kernel)
set_option maxRecDepth 20000 in
theorem gt_wsL_law_r28 : GoodIn lw_tbl wsL_law_r28 := goodIn_r _ [679, 680, 681, 682, 1183, 1184, 1185, 1186, 683, 684, 685, 686, 687, 688, 689, 690, 211, 691, 693, 12, 694, 207, 695, 696] (by decide +kernel) (by decide +kernel)
set_option maxRecDepth 20000 in
theorem gt_wsL_law_r29 : GoodIn lw_tbl wsL_law_r29 := goodIn_r _ [1187, 1188, 1189, 1190, 1191, 1193, 48, 1194, 1195, 1197, 49, 1198, 698, 699, 700, 701, 702, 703, 704, 705, 203, 707, 706, 1199] (by decide +kernel) (by decide +kernel)
set_option maxRecDepth 20000 in
theorem gt_wsL_law_r30 : GoodIn lw_tbl wsL_law_r30 := goodIn_r _ [1200, 1201, 1202, 1203, 1205, 50, 1206, 708, 709, 710, 711, 302, 304, 712, 713, 714, 715, 108, 100, 716, 717, 719, 13, 720] (by decide +kernel) (by decide +kernel)
set_option maxRecDepth 20000 in
theorem gt_wsL_law_r31 : GoodIn lw_tbl wsL_law_r31 := goodIn_r _ [721, 723, 14, 724, 725, 726, 728, 15, 729, 1207, 1208, 1209, 1210, 902, 901, 1211, 1213, 51, 1214, 1215, 1216, 1217, 1218, 1219] (by decide +kernel) (by decide +kernel)
set_option maxRecDepth 20000 in
theorem gt_wsL_law_r32 : GoodIn lw_tbl wsL_law_r32 := goodIn_r _ [1220, 730, 731, 732, 733, 332, 334, 734, 735, 736, 737, 739, 738, 740, 742, 16, 743, 744, 101, 96, 745, 747, 17, 748] (by decide +kernel) (by decide +kernel)
set_option maxRecDepth 20000 in
theorem gt_wsL_law_r33 : GoodIn lw_tbl wsL_law_r33 := goodIn_r _ [204, 208, 213, 200, 749, 750, 751, 1221, 1222, 1223, 1224, 1225, 904, 905, 1226, 1228, 52, 1229, 1230, 1231, 1233, 53, 1234, 1235] (by decide +kernel) (by decide +kernel)
set_option maxRecDepth 20000 in
theorem gt_wsL_law_r34 : GoodIn lw_tbl wsL_law_r34 := goodIn_r _ [1237, 54, 1238, 752, 753, 754, 755, 756, 757, 758, 759, 760, 762, 18, 763, 1239, 1240, 1241, 1242, 1243, 1245, 55, 1246, 765] (by decide +kernel) (by decide +kernel)
set_option maxRecDepth 20000 in
theorem gt_wsL_law_r35 : GoodIn lw_tbl wsL_law_r35 := goodIn_r _ [766, 767, 768, 769, 770, 771, 772, 773, 105, 112, 116, 1247, 1248, 1249, 1250, 1251, 774, 775, 776, 777, 778, 1252, 1253, 1254] (by decide +kernel) (by decide +kernel)
set_option maxRecDepth 20000 in
theorem gt_wsL_law_r36 : GoodIn lw_tbl wsL_law_r36 := goodIn_r _ [1255, 1256, 779, 780, 781, 782, 783, 784, 1257, 1258, 1259, 1260, 1261, 1262, 785, 786, 787, 788, 789, 790, 791, 792, 1263, 1264] (by decide +kernel) (by decide +kernel)
set_option maxRecDepth 20000 in
theorem gt_wsL_law_r37 : GoodIn lw_tbl wsL_law_r37 := goodIn_r _ [1265, 1266, 1267, 793, 794, 795, 796, 797, 798, 799, 800, 109, 801, 803, 19, 804, 805, 1268, 1269, 1270, 1271, 1272, 1274, 56] (by decide +kernel) (by decide +kernel)
set_option maxRecDepth 20000 in
theorem gt_wsL_law_r38 : GoodIn lw_tbl wsL_law_r38 := goodIn_r _ [1275, 1276, 1278, 57, 1279, 807, 808, 809, 810, 811, 812, 813, 814, 104, 815, 816, 817, 74, 818, 819, 820, 821, 822, 824] (by decide +kernel) (by decide +kernel)
set_option maxRecDepth 20000 in
theorem gt_wsL_law_r39 : GoodIn lw_tbl wsL_law_r39 := goodIn_r _ [20, 825, 830, 826, 828, 21, 829, 1280, 1281, 1282, 1283, 1284, 1285, 1286, 1287, 1289, 58, 1290, 831, 832, 833, 834, 835, 836] (by decide +kernel) (by decide +kernel)
set_option maxRecDepth 20000 in
theorem gt_wsL_law_r40 : GoodIn lw_tbl wsL_law_r40 := goodIn_r _ [837, 838, 1291, 1292, 1293, 1294, 839, 840, 841, 842, 1295, 1296, 1297, 1298, 843, 844, 845, 846, 847, 848, 849, 850, 212, 1299] (by decide +kernel) (by decide +kernel)
set_option maxRecDepth 20000 in
theorem gt_wsL_law_r41 : GoodIn lw_tbl wsL_law_r41 := goodIn_r _ [1300, 1301, 1302, 851, 852, 853, 854, 1303, 1304, 1305, 1306, 855, 856, 857, 858, 266, 268, 270, 859, 1307, 1308, 1309, 1310, 860] (by decide +kernel) (by decide +kernel)
set_option maxRecDepth 20000 in
theorem gt_wsL_law_r42 : GoodIn lw_tbl wsL_law_r42 := goodIn_r _ [861, 862, 863, 1311, 1312, 1313, 1314] (by decide +kernel) (by decide +kernel)
set_option maxRecDepth 20000 in
theorem gt_wsX00 : GoodIn lw_tbl wsX00 := goodIn_r _ [388, 390, 392] (by decide +kernel) (by decide +kernel)
set_option maxRecDepth 20000 in
theorem gt_wsX10 : GoodIn lw_tbl wsX10 := goodIn_r _ [220, 222, 224, 226, 228, 230, 232, 234] (by decide +kernel) (by decide +kernel)
set_option maxRecDepth 20000 in
theorem gt_wsX20 : GoodIn lw_tbl wsX20 := goodIn_r _ [367, 369, 371, 373, 375] (by decide +kernel) (by decide +kernel)
set_option maxRecDepth 20000 in
theorem gt_wsX30 : GoodIn lw_tbl wsX30 := goodIn_r _ [250, 252, 254] (by decide +kernel) (by decide +kernel)
set_option maxRecDepth 20000 in
theorem gt_wsX40 : GoodIn lw_tbl wsX40 := goodIn_r _ [271, 273, 275] (by decide +kernel) (by decide +kernel)
set_option maxRecDepth 20000 in
theorem gt_wsX50 : GoodIn lw_tbl wsX50 := goodIn_r _ [131, 133, 135, 137, 139, 141, 143, 145, 147, 149, 151, 153, 155] (by decide +kernel) (by decide +kernel)
set_option maxRecDepth 20000 in
theorem gt_wsX60 : GoodIn lw_tbl wsX60 := goodIn_r _ [340, 342, 344, 346, 348, 350, 352] (by decide +kernel) (by decide +kernel)
set_option maxRecDepth 20000 in
theorem gt_wsX70 : GoodIn lw_tbl wsX70 := goodIn_r _ [176, 178, 180, 182, 184, 186, 188] (by decide +kernel) (by decide +kernel)
set_option maxRecDepth 20000 in
theorem gt_wsX80 : GoodIn lw_tbl wsX80 := goodIn_r _ [309, 311, 313, 315, 317, 319] (by decide +kernel) (by decide +kernel)
set_option maxRecDepth 20000 in
theorem gt_wsX90 : GoodIn lw_tbl wsX90 := goodIn_r _ [288, 290, 292] (by decide +kernel) (by decide +kernel)
set_option maxRecDepth 20000 in
theorem gt_wsX100 : GoodIn lw_tbl wsX100 := goodIn_r _ [409, 411, 413, 415, 417, 419, 421, 423, 425, 427, 429, 431, 433, 435] (by decide +kernel) (by decide +kernel)
set_option maxRecDepth 20000 in
theorem gt_wsX110 : GoodIn lw_tbl wsX110 := goodIn_r _ [916, 918, 920, 922, 924, 926, 928, 930, 932, 934, 936, 938, 940, 942, 944, 946, 948, 950, 952, 954, 956, 958, 960, 962, 964, 966, 968, 970, 972, 974, 976, 978, 980, 982, 984, 986, 988, 990, 992, 994, 996, 998, 1000, 1002, 1004, 1006] (by decide +kernel) (by decide +kernel)
theorem gt_wsL_law : GoodIn lw_tbl wsL_law := (goodIn_app (goodIn_app (goodIn_app (goodIn_app (goodIn_app (goodIn_app (goodIn_app (goodIn_app (goodIn_app (goodIn_app (goodIn_app (goodIn_app (goodIn_app (goodIn_app gt_wsL_law_r1 (goodIn_app gt_wsL_law_r2 (goodIn_app gt_wsL_law_r3 (goodIn_app gt_wsL_law_r4 (goodIn_app gt_wsL_law_r5 (goodIn_app gt_wsL_law_r6 (goodIn_app gt_wsL_law_r7 (goodIn_app gt_wsL_law_r8 (goodIn_app gt_wsL_law_r9 (goodIn_app gt_wsL_law_r10 (goodIn_app gt_wsL_law_r11 (goodIn_app gt_wsL_law_r12 (goodIn_app gt_wsL_law_r13 (goodIn_app gt_wsL_law_r14 (goodIn_app gt_wsL_law_r15 (goodIn_app gt_wsL_law_r16 (goodIn_app gt_wsL_law_r17 (goodIn_app gt_wsL_law_r18 (goodIn_app gt_wsL_law_r19 (goodIn_app gt_wsL_law_r20 (goodIn_app gt_wsL_law_r21 (goodIn_app gt_wsL_law_r22 (goodIn_app gt_wsL_law_r23 (goodIn_app gt_wsL_law_r24 (goodIn_app gt_wsL_law_r25 (goodIn_app gt_wsL_law_r26 (goodIn_app gt_wsL_law_r27 (goodIn_app gt_wsL_law_r28 (goodIn_app gt_wsL_law_r29 (goodIn_app gt_wsL_law_r30 (goodIn_app gt_wsL_law_r31 (goodIn_app gt_wsL_law_r32 (goodIn_app gt_wsL_law_r33 (goodIn_app gt_wsL_law_r34 (goodIn_app gt_wsL_law_r35 (goodIn_app gt_wsL_law_r36 (goodIn_app gt_wsL_law_r37 (goodIn_app gt_wsL_law_r38 (goodIn_app gt_wsL_law_r39 (goodIn_app gt_wsL_law_r40 (goodIn_app gt_wsL_law_r41 gt_wsL_law_r42))))))))))))))))))))))))))))))))))))))))) gt_wsX100) gt_wsX110) gt_wsX50) gt_wsX70) gt_wsX10) gt_wsX30) gt_wsX40) gt_wsX90) gt_wsX80) gt_wsX60) gt_wsX20) gt_wsX00) (fun _ h => absurd h List.not_mem_nil))
theorem wsL_law_in : ∀ w ∈ wsL_law, w ∈ lw_tbl := fun w h => (gt_wsL_law w h).1
theorem inlX0 : ∀ w ∈ wsX00, w ∈ wsL_law := fun _ h => List.mem_append_left _ (List.mem_append_right _ h)
theorem inX0 : ∀ w ∈ wsX00, w ∈ lw_tbl := fun w h => wsL_law_in w (inlX0 w h)
theorem inlX1 : ∀ w ∈ wsX10, w ∈ wsL_law := fun _ h => List.mem_append_left _ (List.mem_append_left _ (List.mem_append_left _ (List.mem_append_left _ (List.mem_append_left _ (List.mem_append_left _ (List.mem_append_left _ (List.mem_append_left _ (List.mem_append_right _ h))))))))
theorem inX1 : ∀ w ∈ wsX10, w ∈ lw_tbl := fun w h => wsL_law_in w (inlX1 w h)
theorem inlX2 : ∀ w ∈ wsX20, w ∈ wsL_law := fun _ h => List.mem_append_left _ (List.mem_append_left _ (List.mem_append_right _ h))
theorem inX2 : ∀ w ∈ wsX20, w ∈ lw_tbl := fun w h => wsL_law_in w (inlX2 w h)
theorem inlX3 : ∀ w ∈ wsX30, w ∈ wsL_law := fun _ h => List.mem_append_left _ (List.mem_append_left _ (List.mem_append_left _ (List.mem_append_left _ (List.mem_append_left _ (List.mem_append_left _ (List.mem_append_left _ (List.mem_append_right _ h)))))))
theorem inX3 : ∀ w ∈ wsX30, w ∈ lw_tbl := fun w h => wsL_law_in w (inlX3 w h)
theorem inlX4 : ∀ w ∈ wsX40, w ∈ wsL_law := fun _ h => List.mem_append_left _ (List.mem_append_left _ (List.mem_append_left _ (List.mem_append_left _ (List.mem_append_left _ (List.mem_append_left _ (List.mem_append_right _ h))))))
theorem inX4 : ∀ w ∈ wsX40, w ∈ lw_tbl := fun w h => wsL_law_in w (inlX4 w h)
theorem inlX5 : ∀ w ∈ wsX50, w ∈ wsL_law := fun _ h => List.mem_append_left _ (List.mem_append_left _ (List.mem_append_left _ (List.mem_append_left _ (List.mem_append_left _ (List.mem_append_left _ (List.mem_append_left _ (List.mem_append_left _ (List.mem_append_left _ (List.mem_append_left _ (List.mem_append_right _ h))))))))))
theorem inX5 : ∀ w ∈ wsX50, w ∈ lw_tbl := fun w h => wsL_law_in w (inlX5 w h)
theorem inlX6 : ∀ w ∈ wsX60, w ∈ wsL_law := fun _ h => List.mem_append_left _ (List.mem_append_left _ (List.mem_append_left _ (List.mem_append_right _ h)))
theorem inX6 : ∀ w ∈ wsX60, w ∈ lw_tbl := fun w h => wsL_law_in w (inlX6 w h)
theorem inlX7 : ∀ w ∈ wsX70, w ∈ wsL_law := fun _ h => List.mem_append_left _ (List.mem_append_left _ (List.mem_append_left _ (List.mem_append_left _ (List.mem_append_left _ (List.mem_append_left _ (List.mem_append_left _ (List.mem_append_left _ (List.mem_append_left _ (List.mem_append_right _ h)))))))))
theorem inX7 : ∀ w ∈ wsX70, w ∈ lw_tbl := fun w h => wsL_law_in w (inlX7 w h)
theorem inlX8 : ∀ w ∈ wsX80, w ∈ wsL_law := fun _ h => List.mem_append_left _ (List.mem_append_left _ (List.mem_append_left _ (List.mem_append_left _ (List.mem_append_right _ h))))
theorem inX8 : ∀ w ∈ wsX80, w ∈ lw_tbl := fun w h => wsL_law_in w (inlX8 w h)
theorem inlX9 : ∀ w ∈ wsX90, w ∈ wsL_law := fun _ h => List.mem_append_left _ (List.mem_append_left _ (List.mem_append_left _ (List.mem_append_left _ (List.mem_append_left _ (List.mem_append_right _ h)))))
theorem inX9 : ∀ w ∈ wsX90, w ∈ lw_tbl := fun w h => wsL_law_in w (inlX9 w h)
theorem inlX10 : ∀ w ∈ wsX100, w ∈ wsL_law := fun _ h => List.mem_append_left _ (List.mem_append_left _ (List.mem_append_left _ (List.mem_append_left _ (List.mem_append_left _ (List.mem_append_left _ (List.mem_append_left _ (List.mem_append_left _ (List.mem_append_left _ (List.mem_append_left _ (List.mem_append_left _ (List.mem_append_left _ (List.mem_append_right _ h))))))))))))
theorem inX10 : ∀ w ∈ wsX100, w ∈ lw_tbl := fun w h => wsL_law_in w (inlX10 w h)
theorem inlX11 : ∀ w ∈ wsX110, w ∈ wsL_law := fun _ h => List.mem_append_left _ (List.mem_append_left _ (List.mem_append_left _ (List.mem_append_left _ (List.mem_append_left _ (List.mem_append_left _ (List.mem_append_left _ (List.mem_append_left _ (List.mem_append_left _ (List.mem_append_left _ (List.mem_append_left _ (List.mem_append_right _ h)))))))))))
theorem inX11 : ∀ w ∈ wsX110, w ∈ lw_tbl := fun w h => wsL_law_in w (inlX11 w h)
theorem inJ6 : ∀ w ∈ wsJ60, w ∈ lw_tbl := by decide +kernel
theorem inJ9 : ∀ w ∈ wsJ90, w ∈ lw_tbl := by decide +kernel
theorem inJ10 : ∀ w ∈ wsJ100, w ∈ lw_tbl := by decide +kernel
