set_option maxRecDepth 20000 in
theorem ggL_law_X8_init : GoodIn wsL_law wsX8_init := goodIn_r _ [9, 10, 11, 12, 13, 14, 15, 16, 17, 18, 19, 20, 21, 22, 23, 24, 25, 26, 27, 28, 29, 30, 31, 32, 33, 34, 35, 36, 37, 38, 39, 40, 41, 42, 43, 44, 45, 46, 47, 48, 49, 50, 51, 52, 53, 54, 55, 56, 57, 58, 59, 60, 61, 62, 63, 64, 65, 66, 67, 68, 69, 70, 71, 72, 73, 74, 75, 76, 77, 78, 79, 80, 81, 82, 83, 84, 85, 86, 87, 1099, 1100, 1044, 1045, 1046, 1047, 1101, 1102, 1103, 1104, 1105, 1106, 1107, 1108, 1109, 1110, 1111, 1112, 1113, 1114, 1115, 1116, 1117, 1118, 1119, 1120, 1121, 1122, 1123, 1124, 1125] (by decide +kernel) (by decide +kernel)
set_option maxRecDepth 20000 in
theorem gL_law_X8_init : GoodIn wsL_law (wsX8_init) := ggL_law_X8_init
set_option maxRecDepth 20000 in
theorem ggL_law_X9_init : GoodIn wsL_law wsX9_init := goodIn_r _ [90, 91, 11, 12, 46, 92, 93, 94, 95, 96, 97, 98, 99, 100, 101, 102, 103, 104, 105, 106, 52, 107, 108, 109, 110, 111, 112, 113, 114, 115, 116, 117, 118, 119, 120, 121, 122, 123, 124, 125, 126, 127, 128, 129, 130, 131, 132, 133, 134, 135, 136, 1048, 1049, 1050, 1051, 1052, 1053, 1054, 1055, 1056, 1057, 1058, 1059, 1060, 1061, 1062, 1063, 1064, 1065, 1066, 1067, 1068, 1069, 1070, 1071, 1072, 1073, 1074, 1075, 1076, 1077, 1078, 1079, 1080, 1081, 1082, 1083, 1084, 1085, 1086, 1087, 1088, 1089, 1090, 1091, 1092, 1093, 1094, 1095, 1096, 1097, 1098] (by decide +kernel) (by decide +kernel)
set_option maxRecDepth 20000 in
theorem gL_law_X9_init : GoodIn wsL_law (wsX9_init) := ggL_law_X9_init
set_option maxRecDepth 20000 in
theorem ggL_law_X8_type : GoodIn wsL_law wsX8_type := goodIn_r _ [140, 16, 141, 142, 2, 143, 144, 145, 146, 147, 148, 149, 15, 150, 151, 152, 153, 154, 155, 33, 1044, 1045, 1046, 1047, 1099, 1100] (by decide +kernel) (by decide +kernel)
set_option maxRecDepth 20000 in
theorem gL_law_X8_type : GoodIn wsL_law (wsV RL 15 RX8 yX8_type wsX8_type) := goodIn_app (goodIn_of _ (by decide +kernel)) ggL_law_X8_type
set_option maxRecDepth 20000 in
theorem ggL_law_X9_type : GoodIn wsL_law wsX9_type := goodIn_r _ [159, 160, 161, 162, 163, 164, 96, 165, 166, 5, 167, 1048, 1049, 1050, 1051, 1052, 1053, 1054, 1055, 1056, 1057, 1058, 1059, 1060, 1061, 1062, 1063, 1064, 1065, 1066, 1067, 1068, 1069, 1070, 1071, 1072, 1073, 1074, 1075, 1076, 1077, 1078, 1079, 1080, 1081, 1082, 1083, 1084, 1085, 1086, 1087, 1088, 1089, 1090, 1091, 1092, 1093, 1094, 1095, 1096, 1097, 1098] (by decide +kernel) (by decide +kernel)
set_option maxRecDepth 20000 in
theorem gL_law_X9_type : GoodIn wsL_law (wsV RL 19 RX9 yX9_type wsX9_type) := goodIn_app (goodIn_of _ (by decide +kernel)) ggL_law_X9_type
set_option maxRecDepth 20000 in
theorem ggL_law_X8_terms : GoodIn wsL_law wsX8_terms := goodIn_r _ [171, 20, 16, 172, 173, 174, 40, 175, 57, 58, 176, 177, 178, 179, 180, 181, 182, 183, 184, 185, 186, 15, 187, 151, 188, 189, 190, 191, 33, 192, 193, 194, 195, 196, 197, 198, 199, 200, 201, 202, 203, 204, 205, 206, 207, 208, 209, 210, 211, 212, 213, 214, 215, 216, 1044, 1045, 1046, 1047, 1101, 1102, 1103, 1104, 1105, 1106, 1107, 1108, 1119, 1120, 1099, 1100] (by decide +kernel) (by decide +kernel)
set_option maxRecDepth 20000 in
theorem gL_law_X8_terms : GoodIn wsL_law (wsV RL 20 RX8 yX8_terms wsX8_terms) := goodIn_app (goodIn_of _ (by decide +kernel)) ggL_law_X8_terms
set_option maxRecDepth 20000 in
theorem ggL_law_X9_terms : GoodIn wsL_law wsX9_terms := goodIn_r _ [220, 164, 221, 94, 95, 222, 223, 224, 5, 225, 93, 226, 227, 228, 229, 96, 230, 231, 232, 233, 92, 234, 235, 236, 237, 238, 239, 165, 166, 167, 1048, 1049, 1050, 1051, 1052, 1053, 1054, 1055, 1056, 1057, 1058, 1059, 1060, 1061, 1062, 1063, 1064, 1065, 1066, 1067, 1068, 1069, 1070, 1071, 1072, 1073, 1074, 1075, 1076, 1077, 1078, 1079, 1080, 1081, 1082, 1083, 1084, 1085, 1086, 1087, 1088, 1089, 1090, 1091, 1092, 1093, 1094, 1095, 1096, 1097, 1098] (by decide +kernel) (by decide +kernel)
set_option maxRecDepth 20000 in
theorem gL_law_X9_terms : GoodIn wsL_law (wsV RL 24 RX9 yX9_terms wsX9_terms) := goodIn_app (goodIn_of _ (by decide +kernel)) ggL_law_X9_terms
set_option maxRecDepth 20000 in
theorem ggL_law_X8_term : GoodIn wsL_law wsX8_term := goodIn_r _ [243, 20, 244, 194, 40, 195, 196, 245, 246, 247, 248, 57, 1044, 1045, 1046, 1047, 1101, 1102, 1103, 1104, 1105, 1106, 1107, 1108, 1119, 1120] (by decide +kernel) (by decide +kernel)
set_option maxRecDepth 20000 in
theorem gL_law_X8_term : GoodIn wsL_law (wsV RL 25 RX8 yX8_term wsX8_term) := goodIn_app (goodIn_of _ (by decide +kernel)) ggL_law_X8_term
set_option maxRecDepth 20000 in
theorem ggL_law_X9_term : GoodIn wsL_law wsX9_term := goodIn_r _ [252, 94, 230, 231, 232, 5, 233, 92, 1048, 1049, 1050, 1051, 1052, 1053, 1054, 1055, 1056, 1057, 1058, 1059, 1060, 1061, 1062, 1063, 1064, 1065, 1066, 1067, 1068, 1069, 1070, 1071, 1072, 1073, 1074, 1075, 1076, 1077, 1078, 1079, 1080, 1081, 1082, 1083, 1084, 1085, 1086, 1087, 1088, 1089, 1090, 1091, 1092, 1093, 1094, 1095, 1096, 1097, 1098] (by decide +kernel) (by decide +kernel)
set_option maxRecDepth 20000 in
theorem gL_law_X9_term : GoodIn wsL_law (wsV RL 29 RX9 yX9_term wsX9_term) := goodIn_app (goodIn_of _ (by decide +kernel)) ggL_law_X9_term
set_option maxRecDepth 20000 in
theorem ggL_law_X8_post : GoodIn wsL_law wsX8_post := goodIn_r _ [256, 20, 257, 258, 2, 259, 141, 142, 143, 260, 261, 262, 19, 263, 47, 264, 265, 266, 267, 1044, 1045, 1046, 1047, 1101, 1102, 1103, 1104, 1105, 1106, 1107, 1108] (by decide +kernel) (by decide +kernel)
set_option maxRecDepth 20000 in
theorem gL_law_X8_post : GoodIn wsL_law (wsV RL 30 RX8 yX8_post wsX8_post) := goodIn_app (goodIn_of _ (by decide +kernel)) ggL_law_X8_post
set_option maxRecDepth 20000 in
theorem ggL_law_X9_post : GoodIn wsL_law wsX9_post := goodIn_r _ [271, 272, 97, 273, 274, 5, 275, 160, 165, 166, 167, 1048, 1049, 1050, 1051, 1052, 1053, 1054, 1055, 1056, 1057, 1058, 1059, 1060, 1061, 1062, 1063, 1064, 1065, 1066, 1067, 1068, 1069, 1070, 1071, 1072, 1073, 1074, 1075, 1076, 1077, 1078, 1079, 1080, 1081, 1082, 1083, 1084, 1085, 1086, 1087, 1088, 1089, 1090, 1091, 1092, 1093, 1094, 1095, 1096, 1097, 1098] (by decide +kernel) (by decide +kernel)
set_option maxRecDepth 20000 in
theorem gL_law_X9_post : GoodIn wsL_law (wsV RL 34 RX9 yX9_post wsX9_post) := goodIn_app (goodIn_of _ (by decide +kernel)) ggL_law_X9_post
set_option maxRecDepth 20000 in
theorem ggL_law_X8_gown : GoodIn wsL_law wsX8_gown := goodIn_r _ [279, 280, 281, 282, 2, 283, 20, 284, 285, 286, 287, 288, 289, 141, 142, 143, 290, 291, 292, 257, 258, 259, 293, 294, 295, 296, 11, 12, 297, 298, 299, 300, 301, 302, 303, 304, 305, 306, 307, 19, 308, 309, 49, 1044, 1045, 1046, 1047, 1101, 1102, 1103, 1104, 1105, 1106, 1107, 1108, 1126, 1127, 1128, 1129, 1130, 1131, 1132, 1133, 1134, 1135, 1136, 1137] (by decide +kernel) (by decide +kernel)
set_option maxRecDepth 20000 in
theorem gL_law_X8_gown : GoodIn wsL_law (wsV RL 35 RX8 yX8_gown wsX8_gown) := goodIn_app (goodIn_of _ (by decide +kernel)) ggL_law_X8_gown
set_option maxRecDepth 20000 in
theorem ggL_law_X9_gown : GoodIn wsL_law wsX9_gown := goodIn_r _ [313, 314, 315, 316, 5, 317, 272, 318, 319, 320, 98, 99, 100, 101, 102, 103, 104, 321, 322, 323, 324, 165, 166, 167, 325, 326, 327, 328, 273, 274, 275, 160, 1048, 1049, 1050, 1051, 1052, 1053, 1054, 1055, 1056, 1057, 1058, 1059, 1060, 1061, 1062, 1063, 1064, 1065, 1066, 1067, 1068, 1069, 1070, 1071, 1072, 1073, 1074, 1075, 1076, 1077, 1078, 1079, 1080, 1081, 1082, 1083, 1084, 1085, 1086, 1087, 1088, 1089, 1090, 1091, 1092, 1093, 1094, 1095, 1096, 1097, 1098] (by decide +kernel) (by decide +kernel)
set_option maxRecDepth 20000 in
theorem gL_law_X9_gown : GoodIn wsL_law (wsV RL 39 RX9 yX9_gown wsX9_gown) := goodIn_app (goodIn_of _ (by decide +kernel)) ggL_law_X9_gown
set_option maxRecDepth 20000 in
theorem ggL_law_X8_longGown : GoodIn wsL_law wsX8_longGown := goodIn_r _ [332, 280, 281, 282, 2, 283, 20, 284, 285, 286, 287, 288, 289, 141, 142, 143, 290, 291, 292, 257, 258, 259, 293, 294, 295, 296, 11, 12, 297, 298, 299, 300, 301, 302, 303, 304, 305, 306, 307, 19, 308, 309, 49, 1044, 1045, 1046, 1047, 1101, 1102, 1103, 1104, 1105, 1106, 1107, 1108, 1126, 1127, 1128, 1129, 1130, 1131, 1132, 1133, 1134, 1135, 1136, 1137] (by decide +kernel) (by decide +kernel)
set_option maxRecDepth 20000 in
theorem gL_law_X8_longGown : GoodIn wsL_law (wsV RL 40 RX8 yX8_longGown wsX8_longGown) := goodIn_app (goodIn_of _ (by decide +kernel)) ggL_law_X8_longGown
set_option maxRecDepth 20000 in
theorem ggL_law_X9_longGown : GoodIn wsL_law wsX9_longGown := goodIn_r _ [336, 314, 315, 316, 5, 317, 272, 318, 319, 320, 98, 99, 100, 101, 102, 103, 104, 321, 322, 323, 324, 165, 166, 167, 325, 326, 327, 328, 273, 274, 275, 160, 1048, 1049, 1050, 1051, 1052, 1053, 1054, 1055, 1056, 1057, 1058, 1059, 1060, 1061, 1062, 1063, 1064, 1065, 1066, 1067, 1068, 1069, 1070, 1071, 1072, 1073, 1074, 1075, 1076, 1077, 1078, 1079, 1080, 1081, 1082, 1083, 1084, 1085, 1086, 1087, 1088, 1089, 1090, 1091, 1092, 1093, 1094, 1095, 1096, 1097, 1098] (by decide +kernel) (by decide +kernel)
set_option maxRecDepth 20000 in
theorem gL_law_X9_longGown : GoodIn wsL_law (wsV RL 43 RX9 yX9_longGown wsX9_longGown) := goodIn_app (goodIn_of _ (by decide +kernel)) ggL_law_X9_longGown
set_option maxRecDepth 20000 in
theorem ggL_law_X8_suit : GoodIn wsL_law wsX8_suit := goodIn_r _ [340, 280, 281, 282, 2, 283, 20, 284, 285, 286, 287, 288, 289, 141, 142, 143, 290, 291, 292, 257, 258, 259, 293, 294, 295, 296, 11, 12, 297, 298, 299, 300, 301, 302, 303, 304, 305, 306, 307, 19, 308, 309, 49, 1044, 1045, 1046, 1047, 1101, 1102, 1103, 1104, 1105, 1106, 1107, 1108, 1126, 1127, 1128, 1129, 1130, 1131, 1132, 1133, 1134, 1135, 1136, 1137] (by decide +kernel) (by decide +kernel)
set_option maxRecDepth 20000 in
theorem gL_law_X8_suit : GoodIn wsL_law (wsV RL 44 RX8 yX8_suit wsX8_suit) := goodIn_app (goodIn_of _ (by decide +kernel)) ggL_law_X8_suit
set_option maxRecDepth 20000 in
theorem ggL_law_X9_suit : GoodIn wsL_law wsX9_suit := goodIn_r _ [344, 314, 315, 316, 5, 317, 272, 318, 319, 320, 98, 99, 100, 101, 102, 103, 104, 321, 322, 323, 324, 165, 166, 167, 325, 326, 327, 328, 273, 274, 275, 160, 1048, 1049, 1050, 1051, 1052, 1053, 1054, 1055, 1056, 1057, 1058, 1059, 1060, 1061, 1062, 1063, 1064, 1065, 1066, 1067, 1068, 1069, 1070, 1071, 1072, 1073, 1074, 1075, 1076, 1077, 1078, 1079, 1080, 1081, 1082, 1083, 1084, 1085, 1086, 1087, 1088, 1089, 1090, 1091, 1092, 1093, 1094, 1095, 1096, 1097, 1098] (by decide +kernel) (by decide +kernel)
set_option maxRecDepth 20000 in
theorem gL_law_X9_suit : GoodIn wsL_law (wsV RL 47 RX9 yX9_suit wsX9_suit) := goodIn_app (goodIn_of _ (by decide +kernel)) ggL_law_X9_suit
set_option maxRecDepth 20000 in
theorem ggL_law_X8_hem : GoodIn wsL_law wsX8_hem := goodIn_r _ [348, 20, 349, 350, 351, 19, 352, 309, 49, 141, 142, 2, 143, 1044, 1045, 1046, 1047, 1126, 1127, 1128, 1129, 1130, 1131, 1132, 1133, 1134, 1135, 1136, 1137, 1101, 1102, 1103, 1104, 1105, 1106, 1107, 1108] (by decide +kernel) (by decide +kernel)
set_option maxRecDepth 20000 in
theorem gL_law_X8_hem : GoodIn wsL_law (wsV RL 48 RX8 yX8_hem wsX8_hem) := goodIn_app (goodIn_of _ (by decide +kernel)) ggL_law_X8_hem
set_option maxRecDepth 20000 in
theorem ggL_law_X9_hem : GoodIn wsL_law wsX9_hem := goodIn_r _ [356, 357, 98, 105, 358, 359, 360, 5, 361, 320, 165, 166, 167, 1048, 1049, 1050, 1051, 1052, 1053, 1054, 1055, 1056, 1057, 1058, 1059, 1060, 1061, 1062, 1063, 1064, 1065, 1066, 1067, 1068, 1069, 1070, 1071, 1072, 1073, 1074, 1075, 1076, 1077, 1078, 1079, 1080, 1081, 1082, 1083, 1084, 1085, 1086, 1087, 1088, 1089, 1090, 1091, 1092, 1093, 1094, 1095, 1096, 1097, 1098] (by decide +kernel) (by decide +kernel)
set_option maxRecDepth 20000 in
theorem gL_law_X9_hem : GoodIn wsL_law (wsV RL 52 RX9 yX9_hem wsX9_hem) := goodIn_app (goodIn_of _ (by decide +kernel)) ggL_law_X9_hem
