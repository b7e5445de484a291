set_option maxRecDepth 20000 in
theorem ggL_law_X8_out : GoodIn wsL_law wsX8_out := goodIn_r _ [866, 20, 537, 538, 539, 19, 540, 495, 51, 141, 142, 2, 143, 545, 546, 547, 501, 548, 508, 867, 868, 869, 870, 41, 466, 246, 247, 40, 248, 57, 871, 872, 873, 874, 875, 876, 1044, 1045, 1046, 1047, 1138, 1139, 1140, 1141, 1142, 1143, 1144, 1145, 1146, 1147, 1148, 1149, 1150, 1151, 1101, 1102, 1103, 1104, 1105, 1106, 1107, 1108, 1126, 1127, 1128, 1129, 1130, 1131, 1132, 1133, 1134, 1135, 1136, 1137, 1119, 1120] (by decide +kernel) (by decide +kernel)
set_option maxRecDepth 20000 in
theorem gL_law_X8_out : GoodIn wsL_law (wsV RL 126 RX8 yX8_out wsX8_out) := goodIn_app (goodIn_of _ (by decide +kernel)) ggL_law_X8_out
set_option maxRecDepth 20000 in
theorem ggL_law_X9_out : GoodIn wsL_law wsX9_out := goodIn_r _ [880, 881, 123, 124, 125, 126, 103, 94, 553, 554, 555, 5, 556, 520, 165, 166, 167, 1048, 1049, 1050, 1051, 1052, 1053, 1054, 1055, 1056, 1057, 1058, 1059, 1060, 1061, 1062, 1063, 1064, 1065, 1066, 1067, 1068, 1069, 1070, 1071, 1072, 1073, 1074, 1075, 1076, 1077, 1078, 1079, 1080, 1081, 1082, 1083, 1084, 1085, 1086, 1087, 1088, 1089, 1090, 1091, 1092, 1093, 1094, 1095, 1096, 1097, 1098] (by decide +kernel) (by decide +kernel)
set_option maxRecDepth 20000 in
theorem gL_law_X9_out : GoodIn wsL_law (wsV RL 129 RX9 yX9_out wsX9_out) := goodIn_app (goodIn_of _ (by decide +kernel)) ggL_law_X9_out
set_option maxRecDepth 20000 in
theorem ggL_law_X8_home : GoodIn wsL_law wsX8_home := goodIn_r _ [885, 20, 886, 887, 537, 538, 539, 19, 540, 495, 51, 488, 489, 2, 490, 141, 142, 143, 679, 680, 681, 682, 41, 466, 246, 247, 40, 248, 57, 605, 261, 262, 263, 47, 888, 889, 890, 501, 891, 508, 892, 893, 894, 895, 896, 897, 898, 899, 900, 901, 902, 903, 904, 905, 906, 907, 908, 909, 910, 911, 912, 913, 376, 211, 377, 914, 684, 685, 686, 1044, 1045, 1046, 1047, 1138, 1139, 1140, 1141, 1142, 1143, 1144, 1145, 1146, 1147, 1148, 1149, 1150, 1151, 1126, 1127, 1128, 1129, 1130, 1131, 1132, 1133, 1134, 1135, 1136, 1137, 1101, 1102, 1103, 1104, 1105, 1106, 1107, 1108, 1119, 1120] (by decide +kernel) (by decide +kernel)
set_option maxRecDepth 20000 in
theorem gL_law_X8_home : GoodIn wsL_law (wsV RL 130 RX8 yX8_home wsX8_home) := goodIn_app (goodIn_of _ (by decide +kernel)) ggL_law_X8_home
set_option maxRecDepth 20000 in
theorem ggL_law_X9_home : GoodIn wsL_law wsX9_home := goodIn_r _ [918, 526, 527, 881, 919, 123, 124, 920, 106, 118, 127, 125, 128, 94, 129, 126, 553, 554, 555, 5, 556, 520, 165, 166, 167, 646, 647, 648, 649, 650, 651, 652, 653, 97, 102, 119, 921, 922, 923, 1048, 1049, 1050, 1051, 1052, 1053, 1054, 1055, 1056, 1057, 1058, 1059, 1060, 1061, 1062, 1063, 1064, 1065, 1066, 1067, 1068, 1069, 1070, 1071, 1072, 1073, 1074, 1075, 1076, 1077, 1078, 1079, 1080, 1081, 1082, 1083, 1084, 1085, 1086, 1087, 1088, 1089, 1090, 1091, 1092, 1093, 1094, 1095, 1096, 1097, 1098] (by decide +kernel) (by decide +kernel)
set_option maxRecDepth 20000 in
theorem gL_law_X9_home : GoodIn wsL_law (wsV RL 133 RX9 yX9_home wsX9_home) := goodIn_app (goodIn_of _ (by decide +kernel)) ggL_law_X9_home
set_option maxRecDepth 20000 in
theorem ggL_law_X8_about : GoodIn wsL_law wsX8_about := goodIn_r _ [927, 20, 537, 538, 539, 19, 540, 495, 51, 141, 142, 2, 143, 545, 546, 547, 501, 548, 508, 928, 910, 911, 912, 41, 913, 376, 211, 377, 914, 684, 685, 686, 605, 261, 262, 263, 47, 466, 246, 247, 40, 248, 57, 929, 899, 900, 901, 902, 903, 904, 905, 906, 907, 908, 894, 895, 896, 897, 898, 909, 1044, 1045, 1046, 1047, 1138, 1139, 1140, 1141, 1142, 1143, 1144, 1145, 1146, 1147, 1148, 1149, 1150, 1151, 1101, 1102, 1103, 1104, 1105, 1106, 1107, 1108, 1126, 1127, 1128, 1129, 1130, 1131, 1132, 1133, 1134, 1135, 1136, 1137, 1119, 1120] (by decide +kernel) (by decide +kernel)
set_option maxRecDepth 20000 in
theorem gL_law_X8_about : GoodIn wsL_law (wsV RL 134 RX8 yX8_about wsX8_about) := goodIn_app (goodIn_of _ (by decide +kernel)) ggL_law_X8_about
set_option maxRecDepth 20000 in
theorem ggL_law_X9_about : GoodIn wsL_law wsX9_about := goodIn_r _ [933, 528, 124, 126, 127, 128, 129, 553, 554, 555, 5, 556, 520, 165, 166, 167, 1048, 1049, 1050, 1051, 1052, 1053, 1054, 1055, 1056, 1057, 1058, 1059, 1060, 1061, 1062, 1063, 1064, 1065, 1066, 1067, 1068, 1069, 1070, 1071, 1072, 1073, 1074, 1075, 1076, 1077, 1078, 1079, 1080, 1081, 1082, 1083, 1084, 1085, 1086, 1087, 1088, 1089, 1090, 1091, 1092, 1093, 1094, 1095, 1096, 1097, 1098] (by decide +kernel) (by decide +kernel)
set_option maxRecDepth 20000 in
theorem gL_law_X9_about : GoodIn wsL_law (wsV RL 137 RX9 yX9_about wsX9_about) := goodIn_app (goodIn_of _ (by decide +kernel)) ggL_law_X9_about
set_option maxRecDepth 20000 in
theorem ggL_law_X8_retire : GoodIn wsL_law wsX8_retire := goodIn_r _ [937, 20, 349, 350, 351, 19, 352, 309, 49, 938, 379, 380, 286, 381, 382, 370, 304, 939, 372, 373, 374, 303, 375, 376, 211, 377, 1044, 1045, 1046, 1047, 1126, 1127, 1128, 1129, 1130, 1131, 1132, 1133, 1134, 1135, 1136, 1137, 1101, 1102, 1103, 1104, 1105, 1106, 1107, 1108] (by decide +kernel) (by decide +kernel)
set_option maxRecDepth 20000 in
theorem gL_law_X8_retire : GoodIn wsL_law (wsV RL 138 RX8 yX8_retire wsX8_retire) := goodIn_app (goodIn_of _ (by decide +kernel)) ggL_law_X8_retire
set_option maxRecDepth 20000 in
theorem ggL_law_X9_retire : GoodIn wsL_law wsX9_retire := goodIn_r _ [943, 107, 358, 359, 360, 5, 361, 320, 165, 166, 167, 391, 392, 393, 394, 106, 104, 387, 388, 389, 390, 103, 1048, 1049, 1050, 1051, 1052, 1053, 1054, 1055, 1056, 1057, 1058, 1059, 1060, 1061, 1062, 1063, 1064, 1065, 1066, 1067, 1068, 1069, 1070, 1071, 1072, 1073, 1074, 1075, 1076, 1077, 1078, 1079, 1080, 1081, 1082, 1083, 1084, 1085, 1086, 1087, 1088, 1089, 1090, 1091, 1092, 1093, 1094, 1095, 1096, 1097, 1098] (by decide +kernel) (by decide +kernel)
set_option maxRecDepth 20000 in
theorem gL_law_X9_retire : GoodIn wsL_law (wsV RL 141 RX9 yX9_retire wsX9_retire) := goodIn_app (goodIn_of _ (by decide +kernel)) ggL_law_X9_retire
set_option maxRecDepth 20000 in
theorem ggL_law_X8_count : GoodIn wsL_law wsX8_count := goodIn_r _ [947, 20, 948, 949, 950, 19, 951, 309, 571, 350, 351, 352, 49, 952, 953, 954, 286, 955, 370, 378, 379, 380, 381, 382, 304, 589, 590, 591, 592, 297, 956, 957, 958, 959, 495, 597, 538, 539, 540, 51, 960, 961, 962, 501, 963, 565, 566, 542, 543, 544, 507, 1044, 1045, 1046, 1047, 1101, 1102, 1103, 1104, 1105, 1106, 1107, 1108, 1121, 1122, 1123, 1124, 1125, 1126, 1127, 1128, 1129, 1130, 1131, 1132, 1133, 1134, 1135, 1136, 1137, 1138, 1139, 1140, 1141, 1142, 1143, 1144, 1145, 1146, 1147, 1148, 1149, 1150, 1151] (by decide +kernel) (by decide +kernel)
set_option maxRecDepth 20000 in
theorem gL_law_X8_count : GoodIn wsL_law (wsV RL 142 RX8 yX8_count wsX8_count) := goodIn_app (goodIn_of _ (by decide +kernel)) ggL_law_X8_count
set_option maxRecDepth 20000 in
theorem ggL_law_X9_count : GoodIn wsL_law wsX9_count := goodIn_r _ [967, 320, 106, 108, 416, 520, 122, 123, 391, 392, 393, 5, 394, 107, 104, 1048, 1049, 1050, 1051, 1052, 1053, 1054, 1055, 1056, 1057, 1058, 1059, 1060, 1061, 1062, 1063, 1064, 1065, 1066, 1067, 1068, 1069, 1070, 1071, 1072, 1073, 1074, 1075, 1076, 1077, 1078, 1079, 1080, 1081, 1082, 1083, 1084, 1085, 1086, 1087, 1088, 1089, 1090, 1091, 1092, 1093, 1094, 1095, 1096, 1097, 1098] (by decide +kernel) (by decide +kernel)
set_option maxRecDepth 20000 in
theorem gL_law_X9_count : GoodIn wsL_law (wsV RL 145 RX9 yX9_count wsX9_count) := goodIn_app (goodIn_of _ (by decide +kernel)) ggL_law_X9_count
set_option maxRecDepth 20000 in
theorem ggL_law_X8_sheet : GoodIn wsL_law wsX8_sheet := goodIn_r _ [971, 28, 972, 973, 2, 974, 141, 142, 143, 975, 976, 977, 978, 979, 980, 27, 981, 87, 982, 983, 984, 1044, 1045, 1046, 1047, 1115, 1116, 1117, 1118] (by decide +kernel) (by decide +kernel)
set_option maxRecDepth 20000 in
theorem gL_law_X8_sheet : GoodIn wsL_law (wsV RL 146 RX8 yX8_sheet wsX8_sheet) := goodIn_app (goodIn_of _ (by decide +kernel)) ggL_law_X8_sheet
set_option maxRecDepth 20000 in
theorem ggL_law_X9_sheet : GoodIn wsL_law wsX9_sheet := goodIn_r _ [988, 134, 135, 136, 989, 990, 5, 991, 357, 473, 165, 166, 167, 1048, 1049, 1050, 1051, 1052, 1053, 1054, 1055, 1056, 1057, 1058, 1059, 1060, 1061, 1062, 1063, 1064, 1065, 1066, 1067, 1068, 1069, 1070, 1071, 1072, 1073, 1074, 1075, 1076, 1077, 1078, 1079, 1080, 1081, 1082, 1083, 1084, 1085, 1086, 1087, 1088, 1089, 1090, 1091, 1092, 1093, 1094, 1095, 1096, 1097, 1098] (by decide +kernel) (by decide +kernel)
set_option maxRecDepth 20000 in
theorem gL_law_X9_sheet : GoodIn wsL_law (wsV RL 149 RX9 yX9_sheet wsX9_sheet) := goodIn_app (goodIn_of _ (by decide +kernel)) ggL_law_X9_sheet
set_option maxRecDepth 20000 in
theorem ggL_law_X8_drop : GoodIn wsL_law wsX8_drop := goodIn_r _ [995, 28, 972, 973, 2, 974, 141, 142, 143, 1044, 1045, 1046, 1047, 1115, 1116, 1117, 1118] (by decide +kernel) (by decide +kernel)
set_option maxRecDepth 20000 in
theorem gL_law_X8_drop : GoodIn wsL_law (wsV RL 150 RX8 yX8_drop wsX8_drop) := goodIn_app (goodIn_of _ (by decide +kernel)) ggL_law_X8_drop
set_option maxRecDepth 20000 in
theorem ggL_law_X9_drop : GoodIn wsL_law wsX9_drop := goodIn_r _ [999, 357, 134, 135, 165, 166, 5, 167, 1048, 1049, 1050, 1051, 1052, 1053, 1054, 1055, 1056, 1057, 1058, 1059, 1060, 1061, 1062, 1063, 1064, 1065, 1066, 1067, 1068, 1069, 1070, 1071, 1072, 1073, 1074, 1075, 1076, 1077, 1078, 1079, 1080, 1081, 1082, 1083, 1084, 1085, 1086, 1087, 1088, 1089, 1090, 1091, 1092, 1093, 1094, 1095, 1096, 1097, 1098] (by decide +kernel) (by decide +kernel)
set_option maxRecDepth 20000 in
theorem gL_law_X9_drop : GoodIn wsL_law (wsV RL 153 RX9 yX9_drop wsX9_drop) := goodIn_app (goodIn_of _ (by decide +kernel)) ggL_law_X9_drop
set_option maxRecDepth 20000 in
theorem ggL_law_X8_item : GoodIn wsL_law wsX8_item := goodIn_r _ [1003, 28, 972, 973, 2, 974, 141, 142, 143, 975, 976, 977, 1004, 1005, 1006, 27, 1007, 982, 983, 1008, 1009, 1010, 1011, 984, 1012, 1013, 1014, 1015, 87, 1044, 1045, 1046, 1047, 1115, 1116, 1117, 1118] (by decide +kernel) (by decide +kernel)
set_option maxRecDepth 20000 in
theorem gL_law_X8_item : GoodIn wsL_law (wsV RL 154 RX8 yX8_item wsX8_item) := goodIn_app (goodIn_of _ (by decide +kernel)) ggL_law_X8_item
set_option maxRecDepth 20000 in
theorem ggL_law_X9_item : GoodIn wsL_law wsX9_item := goodIn_r _ [1019, 136, 989, 990, 5, 991, 357, 473, 165, 166, 167, 1020, 1021, 1022, 1023, 134, 135, 1048, 1049, 1050, 1051, 1052, 1053, 1054, 1055, 1056, 1057, 1058, 1059, 1060, 1061, 1062, 1063, 1064, 1065, 1066, 1067, 1068, 1069, 1070, 1071, 1072, 1073, 1074, 1075, 1076, 1077, 1078, 1079, 1080, 1081, 1082, 1083, 1084, 1085, 1086, 1087, 1088, 1089, 1090, 1091, 1092, 1093, 1094, 1095, 1096, 1097, 1098] (by decide +kernel) (by decide +kernel)
set_option maxRecDepth 20000 in
theorem gL_law_X9_item : GoodIn wsL_law (wsV RL 157 RX9 yX9_item wsX9_item) := goodIn_app (goodIn_of _ (by decide +kernel)) ggL_law_X9_item
set_option maxRecDepth 20000 in
theorem ggL_law_X8_books : GoodIn wsL_law wsX8_books := goodIn_r _ [1027, 28, 20, 972, 973, 2, 974, 141, 142, 143, 975, 976, 977, 1004, 1005, 1006, 27, 1007, 982, 983, 1008, 1009, 1010, 1011, 984, 1028, 1029, 1030, 1031, 1032, 1033, 1034, 87, 485, 486, 487, 290, 291, 292, 257, 258, 259, 488, 489, 490, 491, 492, 493, 19, 494, 495, 1035, 1036, 1037, 1038, 496, 497, 498, 499, 51, 50, 500, 501, 502, 503, 504, 505, 506, 11, 12, 507, 508, 509, 510, 511, 512, 513, 514, 515, 1044, 1045, 1046, 1047, 1101, 1102, 1103, 1104, 1105, 1106, 1107, 1108, 1115, 1116, 1117, 1118, 1138, 1139, 1140, 1141, 1142, 1143, 1144, 1145, 1146, 1147, 1148, 1149, 1150, 1151] (by decide +kernel) (by decide +kernel)
set_option maxRecDepth 20000 in
theorem gL_law_X8_books : GoodIn wsL_law (wsV RL 158 RX8 yX8_books wsX8_books) := goodIn_app (goodIn_of _ (by decide +kernel)) ggL_law_X8_books
set_option maxRecDepth 20000 in
theorem ggL_law_X9_books : GoodIn wsL_law wsX9_books := goodIn_r _ [1042, 1043, 136, 520, 989, 990, 5, 991, 357, 473, 165, 166, 167, 1020, 1021, 1022, 1023, 134, 135, 521, 522, 523, 328, 524, 525, 526, 527, 528, 273, 274, 275, 160, 529, 530, 531, 532, 116, 117, 118, 119, 120, 121, 122, 123, 1048, 1049, 1050, 1051, 1052, 1053, 1054, 1055, 1056, 1057, 1058, 1059, 1060, 1061, 1062, 1063, 1064, 1065, 1066, 1067, 1068, 1069, 1070, 1071, 1072, 1073, 1074, 1075, 1076, 1077, 1078, 1079, 1080, 1081, 1082, 1083, 1084, 1085, 1086, 1087, 1088, 1089, 1090, 1091, 1092, 1093, 1094, 1095, 1096, 1097, 1098] (by decide +kernel) (by decide +kernel)
set_option maxRecDepth 20000 in
theorem gL_law_X9_books : GoodIn wsL_law (wsV RL 161 RX9 yX9_books wsX9_books) := goodIn_app (goodIn_of _ (by decide +kernel)) ggL_law_X9_books
