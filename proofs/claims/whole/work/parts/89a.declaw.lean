set_option maxRecDepth 20000 in
theorem ggL_law_X3_init : GoodIn wsL_law wsX3_init := goodIn_r _ [9, 10, 11, 12, 13, 14, 15, 16, 17, 18, 19, 20, 21, 22, 23, 24, 25, 26, 27, 28, 29, 30, 31, 32, 33, 34, 35, 36, 37, 38, 39, 40, 41, 42, 43, 44, 45, 46, 47, 48, 49, 50, 51, 52, 53, 54, 55, 56, 57, 58, 59, 60, 61, 62, 63, 64, 65, 66, 67, 68, 69, 70, 71, 72, 73, 2, 74, 75, 76, 77, 78, 79, 80, 81, 82, 83, 84, 85, 86, 87, 88, 89, 90, 91, 92, 93, 94, 95, 96, 97, 98, 99, 100, 101, 102, 1065, 1066, 1067, 1068, 1069, 1070, 1071, 1041, 1042, 1043, 1044, 1045, 1046, 1047, 1048, 1049, 1072, 1073, 1074, 1075, 1076, 1077, 1078, 1079, 1080, 1081, 1082, 1083, 1084, 1085, 1086] (by decide +kernel) (by decide +kernel)
set_option maxRecDepth 20000 in
theorem gL_law_X3_init : GoodIn wsL_law (wsX3_init) := ggL_law_X3_init
set_option maxRecDepth 20000 in
theorem ggL_law_X4_init : GoodIn wsL_law wsX4_init := goodIn_r _ [105, 106, 11, 12, 38, 107, 108, 109, 110, 111, 112, 113, 114, 115, 1050, 1051, 1052, 1053, 1054, 1055, 1056, 1057, 1058, 1059, 1060, 1061, 1062, 1063, 1064] (by decide +kernel) (by decide +kernel)
set_option maxRecDepth 20000 in
theorem gL_law_X4_init : GoodIn wsL_law (wsX4_init) := ggL_law_X4_init
set_option maxRecDepth 20000 in
theorem ggL_law_L_grant : GoodIn wsL_law wsL_grant := goodIn_ca (goodIn_ca (goodIn_r _ [119, 120, 121, 122, 123, 124, 2, 125, 17, 16, 126, 127, 128, 129, 130, 131, 73, 74, 132, 133, 134, 135, 136, 137, 138, 139, 140, 141, 142, 143, 83, 84, 144, 145, 146, 147, 21, 20, 148, 149, 150, 151, 152, 153, 154, 155, 19, 35, 36, 156, 46, 47, 48, 11, 12, 38, 49, 50, 51, 52, 53, 54, 55, 56, 57, 58, 59, 60, 157, 158, 159, 160, 161, 162, 163, 164, 165, 166, 167, 168, 169, 62, 63, 15, 64, 39, 44, 65, 66, 67, 68, 69, 70, 71, 72, 75, 76, 77, 78, 37, 79, 80, 81, 82, 85, 86, 87, 88, 40, 41, 42, 43, 89, 90, 91, 92, 1041, 1042, 1043, 1044, 1045, 1046, 1047, 1048, 1049, 1079, 1080, 1081, 1082, 1083, 1084, 1085, 1086, 1065, 1066, 1067, 1068, 1069, 1070, 1071] (by decide +kernel) (by decide +kernel)) (goodIn_sub (fun _ h => List.mem_append_left _ (List.mem_append_left _ (List.mem_append_right _ h))) (by decide +kernel))) (goodIn_sub (fun _ h => List.mem_append_left _ (List.mem_append_right _ h)) (by decide +kernel))
set_option maxRecDepth 20000 in
theorem gL_law_L_grant : GoodIn wsL_law (va_wsS RL 126 yL_grant wsL_grant) := goodIn_app (goodIn_of _ (by decide +kernel)) ggL_law_L_grant
set_option maxRecDepth 20000 in
theorem ggL_law_X4_grant : GoodIn wsL_law wsX4_grant := goodIn_r _ [173, 174, 175, 176, 5, 177, 178, 179, 180, 181, 182, 183, 184, 185, 186, 187, 188, 189, 190, 191, 192, 193, 194, 195, 108, 107, 196, 197, 198, 199, 200, 201, 202, 1050, 1051, 1052, 1053, 1054, 1055, 1056, 1057, 1058, 1059, 1060, 1061, 1062, 1063, 1064] (by decide +kernel) (by decide +kernel)
set_option maxRecDepth 20000 in
theorem gL_law_X4_grant : GoodIn wsL_law (wsV RL 131 RX4 yX4_grant wsX4_grant) := goodIn_app (goodIn_of _ (by decide +kernel)) ggL_law_X4_grant
set_option maxRecDepth 20000 in
theorem ggL_law_X4_thrown : GoodIn wsL_law wsX4_thrown := goodIn_r _ [206, 174, 1050, 1051, 1052, 1053, 1054, 1055, 1056, 1057, 1058, 1059, 1060, 1061, 1062, 1063, 1064] (by decide +kernel) (by decide +kernel)
set_option maxRecDepth 20000 in
theorem gL_law_X4_thrown : GoodIn wsL_law (wsV RL 132 RX4 yX4_thrown wsX4_thrown) := goodIn_app (goodIn_of _ (by decide +kernel)) ggL_law_X4_thrown
set_option maxRecDepth 20000 in
theorem ggL_law_L_raise : GoodIn wsL_law wsL_raise := goodIn_ca (goodIn_ca (goodIn_r _ [209, 120, 121, 210, 211, 212, 2, 213, 141, 142, 17, 126, 127, 128, 129, 130, 131, 73, 74, 138, 139, 140, 143, 83, 84, 144, 145, 146, 147, 21, 20, 148, 149, 150, 151, 152, 153, 154, 155, 19, 35, 36, 156, 46, 47, 48, 11, 12, 38, 49, 50, 51, 52, 53, 54, 55, 56, 57, 58, 59, 60, 157, 158, 159, 160, 161, 162, 163, 164, 214, 215, 216, 217, 218, 219, 220, 221, 222, 223, 224, 1041, 1042, 1043, 1044, 1045, 1046, 1047, 1048, 1049, 1079, 1080, 1081, 1082, 1083, 1084, 1085, 1086] (by decide +kernel) (by decide +kernel)) (goodIn_sub (fun _ h => List.mem_append_left _ (List.mem_append_right _ h)) (by decide +kernel))) (goodIn_sub (fun _ h => List.mem_append_left _ (List.mem_append_left _ (List.mem_append_right _ h))) (by decide +kernel))
set_option maxRecDepth 20000 in
theorem gL_law_L_raise : GoodIn wsL_law (va_wsS RL 135 yL_raise wsL_raise) := goodIn_app (goodIn_of _ (by decide +kernel)) ggL_law_L_raise
set_option maxRecDepth 20000 in
theorem ggL_law_X4_raise : GoodIn wsL_law wsX4_raise := goodIn_r _ [228, 174, 175, 176, 5, 177, 178, 179, 180, 184, 185, 186, 187, 188, 189, 190, 191, 192, 193, 194, 195, 108, 107, 196, 197, 198, 229, 230, 231, 232, 1050, 1051, 1052, 1053, 1054, 1055, 1056, 1057, 1058, 1059, 1060, 1061, 1062, 1063, 1064] (by decide +kernel) (by decide +kernel)
set_option maxRecDepth 20000 in
theorem gL_law_X4_raise : GoodIn wsL_law (wsV RL 137 RX4 yX4_raise wsX4_raise) := goodIn_app (goodIn_of _ (by decide +kernel)) ggL_law_X4_raise
set_option maxRecDepth 20000 in
theorem ggL_law_L_flood : GoodIn wsL_law wsL_flood := goodIn_ca (goodIn_r _ [235, 121, 236, 237, 238, 2, 239, 17, 16, 240, 241, 242, 141, 142, 144, 145, 146, 147, 21, 20, 148, 149, 150, 151, 152, 153, 154, 155, 19, 35, 36, 156, 46, 47, 48, 11, 12, 38, 49, 50, 51, 52, 53, 54, 55, 56, 57, 58, 59, 60, 157, 158, 159, 160, 161, 162, 163, 164, 243, 244, 245, 246, 169, 62, 63, 15, 64, 39, 44, 65, 66, 67, 68, 69, 70, 71, 72, 73, 74, 75, 76, 77, 78, 37, 79, 80, 81, 82, 83, 84, 85, 86, 87, 88, 40, 41, 42, 43, 89, 90, 91, 92, 1041, 1042, 1043, 1044, 1045, 1046, 1047, 1048, 1049, 1079, 1080, 1081, 1082, 1083, 1084, 1085, 1086, 1065, 1066, 1067, 1068, 1069, 1070, 1071] (by decide +kernel) (by decide +kernel)) (goodIn_sub (fun _ h => List.mem_append_left _ (List.mem_append_right _ h)) (by decide +kernel))
set_option maxRecDepth 20000 in
theorem gL_law_L_flood : GoodIn wsL_law (va_wsS RL 138 yL_flood wsL_flood) := goodIn_app (goodIn_of _ (by decide +kernel)) ggL_law_L_flood
set_option maxRecDepth 20000 in
theorem ggL_law_X4_flood : GoodIn wsL_law wsX4_flood := goodIn_r _ [250, 174, 178, 179, 5, 180, 184, 185, 186, 187, 191, 192, 193, 194, 195, 108, 107, 196, 197, 198, 251, 252, 253, 254, 1050, 1051, 1052, 1053, 1054, 1055, 1056, 1057, 1058, 1059, 1060, 1061, 1062, 1063, 1064] (by decide +kernel) (by decide +kernel)
set_option maxRecDepth 20000 in
theorem gL_law_X4_flood : GoodIn wsL_law (wsV RL 141 RX4 yX4_flood wsX4_flood) := goodIn_app (goodIn_of _ (by decide +kernel)) ggL_law_X4_flood
set_option maxRecDepth 20000 in
theorem ggL_law_L_buyPlot : GoodIn wsL_law wsL_buyPlot := goodIn_ca (goodIn_ca (goodIn_r _ [257, 120, 258, 259, 260, 261, 2, 262, 16, 17, 263, 264, 265, 129, 130, 126, 127, 128, 131, 73, 74, 266, 70, 71, 15, 72, 39, 267, 268, 269, 270, 41, 271, 272, 273, 274, 44, 275, 276, 277, 278, 42, 279, 280, 281, 282, 43, 283, 284, 285, 286, 287, 288, 289, 290, 291, 36, 292, 293, 80, 81, 82, 49, 83, 84, 294, 90, 91, 92, 295, 296, 297, 298, 51, 136, 137, 299, 300, 301, 302, 52, 144, 145, 146, 147, 21, 20, 148, 149, 150, 151, 152, 153, 154, 155, 19, 35, 156, 46, 47, 48, 11, 12, 38, 50, 53, 54, 55, 56, 57, 58, 59, 60, 157, 158, 159, 160, 161, 162, 163, 164, 303, 304, 305, 306, 307, 308, 309, 310, 311, 166, 167, 168, 169, 62, 63, 64, 65, 66, 67, 68, 69, 75, 76, 77, 78, 37, 79, 85, 86, 87, 88, 40, 89, 1041, 1042, 1043, 1044, 1045, 1046, 1047, 1048, 1049, 1065, 1066, 1067, 1068, 1069, 1070, 1071, 1079, 1080, 1081, 1082, 1083, 1084, 1085, 1086] (by decide +kernel) (by decide +kernel)) (goodIn_sub (fun _ h => List.mem_append_left _ (List.mem_append_left _ (List.mem_append_right _ h))) (by decide +kernel))) (goodIn_sub (fun _ h => List.mem_append_right _ h) (by decide +kernel))
set_option maxRecDepth 20000 in
theorem gL_law_L_buyPlot : GoodIn wsL_law (va_wsS RL 142 yL_buyPlot wsL_buyPlot) := goodIn_app (goodIn_of _ (by decide +kernel)) ggL_law_L_buyPlot
set_option maxRecDepth 20000 in
theorem ggL_law_X4_buyPlot : GoodIn wsL_law wsX4_buyPlot := goodIn_r _ [315, 174, 112, 113, 316, 317, 5, 318, 178, 179, 180, 175, 176, 177, 184, 185, 186, 187, 319, 320, 321, 322, 323, 324, 325, 326, 327, 328, 329, 330, 331, 332, 333, 334, 107, 335, 336, 337, 338, 191, 192, 193, 194, 195, 108, 196, 197, 198, 339, 340, 341, 342, 199, 200, 201, 202, 1050, 1051, 1052, 1053, 1054, 1055, 1056, 1057, 1058, 1059, 1060, 1061, 1062, 1063, 1064] (by decide +kernel) (by decide +kernel)
set_option maxRecDepth 20000 in
theorem gL_law_X4_buyPlot : GoodIn wsL_law (wsV RL 145 RX4 yX4_buyPlot wsX4_buyPlot) := goodIn_app (goodIn_of _ (by decide +kernel)) ggL_law_X4_buyPlot
set_option maxRecDepth 20000 in
theorem ggL_law_L_buySquare : GoodIn wsL_law wsL_buySquare := goodIn_ca (goodIn_ca (goodIn_ca (goodIn_r _ [345, 120, 121, 258, 346, 347, 348, 2, 349, 17, 16, 263, 264, 265, 129, 130, 126, 127, 128, 131, 73, 74, 138, 139, 140, 141, 142, 143, 83, 84, 283, 284, 285, 286, 287, 288, 289, 290, 291, 36, 292, 293, 80, 81, 82, 49, 294, 90, 91, 92, 295, 296, 297, 298, 51, 136, 137, 299, 300, 301, 302, 52, 144, 145, 146, 147, 21, 20, 148, 149, 150, 151, 152, 153, 154, 155, 19, 35, 156, 46, 47, 48, 11, 12, 38, 50, 53, 54, 55, 56, 57, 58, 59, 60, 157, 158, 159, 160, 161, 162, 163, 164, 303, 304, 305, 306, 307, 308, 309, 310, 311, 166, 167, 168, 169, 62, 63, 15, 64, 39, 44, 65, 66, 67, 68, 69, 70, 71, 72, 75, 76, 77, 78, 37, 79, 85, 86, 87, 88, 40, 41, 42, 43, 89, 1041, 1042, 1043, 1044, 1045, 1046, 1047, 1048, 1049, 1079, 1080, 1081, 1082, 1083, 1084, 1085, 1086, 1065, 1066, 1067, 1068, 1069, 1070, 1071] (by decide +kernel) (by decide +kernel)) (goodIn_sub (fun _ h => List.mem_append_left _ (List.mem_append_left _ (List.mem_append_right _ h))) (by decide +kernel))) (goodIn_sub (fun _ h => List.mem_append_left _ (List.mem_append_right _ h)) (by decide +kernel))) (goodIn_sub (fun _ h => List.mem_append_right _ h) (by decide +kernel))
set_option maxRecDepth 20000 in
theorem gL_law_L_buySquare : GoodIn wsL_law (va_wsS RL 146 yL_buySquare wsL_buySquare) := goodIn_app (goodIn_of _ (by decide +kernel)) ggL_law_L_buySquare
set_option maxRecDepth 20000 in
theorem ggL_law_X4_buySquare : GoodIn wsL_law wsX4_buySquare := goodIn_r _ [353, 174, 316, 317, 5, 318, 178, 179, 180, 175, 176, 177, 184, 185, 186, 187, 188, 189, 190, 335, 336, 337, 338, 107, 331, 332, 333, 334, 191, 192, 193, 194, 195, 108, 196, 197, 198, 339, 340, 341, 342, 199, 200, 201, 202, 1050, 1051, 1052, 1053, 1054, 1055, 1056, 1057, 1058, 1059, 1060, 1061, 1062, 1063, 1064] (by decide +kernel) (by decide +kernel)
set_option maxRecDepth 20000 in
theorem gL_law_X4_buySquare : GoodIn wsL_law (wsV RL 148 RX4 yX4_buySquare wsX4_buySquare) := goodIn_app (goodIn_of _ (by decide +kernel)) ggL_law_X4_buySquare
set_option maxRecDepth 20000 in
theorem ggL_law_X3_collectTaxes : GoodIn wsL_law wsX3_collectTaxes := goodIn_r _ [357, 16, 144, 145, 146, 2, 147, 21, 20, 148, 149, 150, 151, 152, 153, 154, 155, 19, 35, 36, 17, 156, 46, 47, 48, 11, 12, 38, 49, 50, 51, 52, 53, 54, 55, 56, 57, 58, 59, 60, 157, 158, 159, 160, 161, 162, 163, 164, 358, 359, 360, 361, 362, 363, 364, 365, 366, 367, 368, 15, 369, 44, 40, 370, 296, 297, 298, 136, 137, 371, 372, 373, 374, 375, 376, 377, 378, 43, 267, 268, 269, 270, 41, 271, 272, 273, 274, 275, 276, 277, 278, 42, 279, 280, 281, 282, 165, 166, 167, 168, 83, 84, 379, 380, 381, 382, 383, 308, 309, 310, 169, 62, 63, 64, 39, 65, 66, 67, 68, 69, 70, 71, 72, 73, 74, 75, 76, 77, 78, 37, 79, 80, 81, 82, 85, 86, 87, 88, 89, 90, 91, 92, 1041, 1042, 1043, 1044, 1045, 1046, 1047, 1048, 1049, 1079, 1080, 1081, 1082, 1083, 1084, 1085, 1086, 1065, 1066, 1067, 1068, 1069, 1070, 1071] (by decide +kernel) (by decide +kernel)
set_option maxRecDepth 20000 in
theorem gL_law_X3_collectTaxes : GoodIn wsL_law (wsV RL 149 RX3 yX3_collectTaxes wsX3_collectTaxes) := goodIn_app (goodIn_of _ (by decide +kernel)) ggL_law_X3_collectTaxes
set_option maxRecDepth 20000 in
theorem ggL_law_X4_collectTaxes : GoodIn wsL_law wsX4_collectTaxes := goodIn_r _ [387, 174, 191, 192, 193, 5, 194, 195, 108, 107, 196, 197, 198, 388, 389, 390, 391, 392, 393, 394, 395, 112, 113, 396, 397, 398, 399, 323, 324, 325, 326, 327, 328, 329, 330, 331, 332, 333, 334, 400, 401, 402, 403, 404, 405, 406, 407, 199, 200, 201, 202, 1050, 1051, 1052, 1053, 1054, 1055, 1056, 1057, 1058, 1059, 1060, 1061, 1062, 1063, 1064] (by decide +kernel) (by decide +kernel)
set_option maxRecDepth 20000 in
theorem gL_law_X4_collectTaxes : GoodIn wsL_law (wsV RL 152 RX4 yX4_collectTaxes wsX4_collectTaxes) := goodIn_app (goodIn_of _ (by decide +kernel)) ggL_law_X4_collectTaxes
set_option maxRecDepth 20000 in
theorem ggL_law_L_setPrice : GoodIn wsL_law wsL_setPrice := goodIn_ca (goodIn_r _ [410, 121, 411, 412, 413, 2, 414, 141, 142, 17, 144, 145, 146, 147, 21, 20, 148, 149, 150, 151, 152, 153, 154, 155, 19, 35, 36, 156, 46, 47, 48, 11, 12, 38, 49, 50, 51, 52, 53, 54, 55, 56, 57, 58, 59, 60, 157, 158, 159, 160, 161, 162, 163, 164, 1041, 1042, 1043, 1044, 1045, 1046, 1047, 1048, 1049, 1079, 1080, 1081, 1082, 1083, 1084, 1085, 1086] (by decide +kernel) (by decide +kernel)) (goodIn_sub (fun _ h => List.mem_append_left _ (List.mem_append_right _ h)) (by decide +kernel))
set_option maxRecDepth 20000 in
theorem gL_law_L_setPrice : GoodIn wsL_law (va_wsS RL 153 yL_setPrice wsL_setPrice) := goodIn_app (goodIn_of _ (by decide +kernel)) ggL_law_L_setPrice
set_option maxRecDepth 20000 in
theorem ggL_law_X4_setPrice : GoodIn wsL_law wsX4_setPrice := goodIn_r _ [418, 174, 107, 178, 179, 5, 180, 184, 185, 186, 187, 191, 192, 193, 194, 195, 108, 196, 197, 198, 1050, 1051, 1052, 1053, 1054, 1055, 1056, 1057, 1058, 1059, 1060, 1061, 1062, 1063, 1064] (by decide +kernel) (by decide +kernel)
set_option maxRecDepth 20000 in
theorem gL_law_X4_setPrice : GoodIn wsL_law (wsV RL 155 RX4 yX4_setPrice wsX4_setPrice) := goodIn_app (goodIn_of _ (by decide +kernel)) ggL_law_X4_setPrice
set_option maxRecDepth 20000 in
theorem ggL_law_L_setTax : GoodIn wsL_law wsL_setTax := goodIn_ca (goodIn_r _ [421, 121, 422, 423, 424, 2, 425, 141, 142, 17, 144, 145, 146, 147, 21, 20, 148, 149, 150, 151, 152, 153, 154, 155, 19, 35, 36, 156, 46, 47, 48, 11, 12, 38, 49, 50, 51, 52, 53, 54, 55, 56, 57, 58, 59, 60, 157, 158, 159, 160, 161, 162, 163, 164, 1041, 1042, 1043, 1044, 1045, 1046, 1047, 1048, 1049, 1079, 1080, 1081, 1082, 1083, 1084, 1085, 1086] (by decide +kernel) (by decide +kernel)) (goodIn_sub (fun _ h => List.mem_append_left _ (List.mem_append_right _ h)) (by decide +kernel))
set_option maxRecDepth 20000 in
theorem gL_law_L_setTax : GoodIn wsL_law (va_wsS RL 156 yL_setTax wsL_setTax) := goodIn_app (goodIn_of _ (by decide +kernel)) ggL_law_L_setTax
set_option maxRecDepth 20000 in
theorem ggL_law_X4_setTax : GoodIn wsL_law wsX4_setTax := goodIn_r _ [429, 174, 107, 178, 179, 5, 180, 184, 185, 186, 187, 191, 192, 193, 194, 195, 108, 196, 197, 198, 1050, 1051, 1052, 1053, 1054, 1055, 1056, 1057, 1058, 1059, 1060, 1061, 1062, 1063, 1064] (by decide +kernel) (by decide +kernel)
set_option maxRecDepth 20000 in
theorem gL_law_X4_setTax : GoodIn wsL_law (wsV RL 158 RX4 yX4_setTax wsX4_setTax) := goodIn_app (goodIn_of _ (by decide +kernel)) ggL_law_X4_setTax
set_option maxRecDepth 20000 in
theorem ggL_law_L_append : GoodIn wsL_law wsL_append := goodIn_ca (goodIn_ca (goodIn_r _ [432, 121, 258, 433, 434, 435, 2, 436, 141, 142, 287, 288, 25, 24, 1041, 1042, 1043, 1044, 1045, 1046, 1047, 1048, 1049] (by decide +kernel) (by decide +kernel)) (goodIn_sub (fun _ h => List.mem_append_left _ (List.mem_append_right _ h)) (by decide +kernel))) (goodIn_sub (fun _ h => List.mem_append_right _ h) (by decide +kernel))
set_option maxRecDepth 20000 in
theorem gL_law_L_append : GoodIn wsL_law (va_wsS RL 159 yL_append wsL_append) := goodIn_app (goodIn_of _ (by decide +kernel)) ggL_law_L_append
set_option maxRecDepth 20000 in
theorem ggL_law_X4_append : GoodIn wsL_law wsX4_append := goodIn_r _ [440, 174, 441, 114, 178, 179, 5, 180, 184, 185, 186, 187, 1050, 1051, 1052, 1053, 1054, 1055, 1056, 1057, 1058, 1059, 1060, 1061, 1062, 1063, 1064] (by decide +kernel) (by decide +kernel)
set_option maxRecDepth 20000 in
theorem gL_law_X4_append : GoodIn wsL_law (wsV RL 161 RX4 yX4_append wsX4_append) := goodIn_app (goodIn_of _ (by decide +kernel)) ggL_law_X4_append
set_option maxRecDepth 20000 in
theorem ggL_law_X3_clearBuffer : GoodIn wsL_law wsX3_clearBuffer := goodIn_r _ [445, 25, 1041, 1042, 1043, 1044, 1045, 1046, 1047, 1048, 1049] (by decide +kernel) (by decide +kernel)
set_option maxRecDepth 20000 in
theorem gL_law_X3_clearBuffer : GoodIn wsL_law (wsV RL 162 RX3 yX3_clearBuffer wsX3_clearBuffer) := goodIn_app (goodIn_of _ (by decide +kernel)) ggL_law_X3_clearBuffer
set_option maxRecDepth 20000 in
theorem ggL_law_X4_clearBuffer : GoodIn wsL_law wsX4_clearBuffer := goodIn_r _ [449, 174, 441, 1050, 1051, 1052, 1053, 1054, 1055, 1056, 1057, 1058, 1059, 1060, 1061, 1062, 1063, 1064] (by decide +kernel) (by decide +kernel)
set_option maxRecDepth 20000 in
theorem gL_law_X4_clearBuffer : GoodIn wsL_law (wsV RL 165 RX4 yX4_clearBuffer wsX4_clearBuffer) := goodIn_app (goodIn_of _ (by decide +kernel)) ggL_law_X4_clearBuffer
set_option maxRecDepth 20000 in
theorem ggL_law_X3_bufferLength : GoodIn wsL_law wsX3_bufferLength := goodIn_r _ [453, 25, 1041, 1042, 1043, 1044, 1045, 1046, 1047, 1048, 1049] (by decide +kernel) (by decide +kernel)
set_option maxRecDepth 20000 in
theorem gL_law_X3_bufferLength : GoodIn wsL_law (wsV RL 166 RX3 yX3_bufferLength wsX3_bufferLength) := goodIn_app (goodIn_of _ (by decide +kernel)) ggL_law_X3_bufferLength
set_option maxRecDepth 20000 in
theorem ggL_law_X4_bufferLength : GoodIn wsL_law wsX4_bufferLength := goodIn_r _ [457, 174, 441, 1050, 1051, 1052, 1053, 1054, 1055, 1056, 1057, 1058, 1059, 1060, 1061, 1062, 1063, 1064] (by decide +kernel) (by decide +kernel)
set_option maxRecDepth 20000 in
theorem gL_law_X4_bufferLength : GoodIn wsL_law (wsV RL 169 RX4 yX4_bufferLength wsX4_bufferLength) := goodIn_app (goodIn_of _ (by decide +kernel)) ggL_law_X4_bufferLength
set_option maxRecDepth 20000 in
theorem ggL_law_X3_firstError : GoodIn wsL_law wsX3_firstError := goodIn_r _ [461, 462, 463, 464, 2, 465, 29, 25, 24, 466, 467, 468, 28, 469, 96, 470, 471, 472, 473, 474, 475, 476, 477, 97, 478, 479, 480, 481, 102, 482, 483, 484, 485, 98, 486, 487, 488, 489, 99, 490, 491, 492, 493, 100, 494, 495, 496, 497, 498, 499, 500, 501, 101, 502, 503, 504, 505, 506, 507, 508, 509, 1041, 1042, 1043, 1044, 1045, 1046, 1047, 1048, 1049, 1072, 1073, 1074, 1075, 1076, 1077, 1078] (by decide +kernel) (by decide +kernel)
set_option maxRecDepth 20000 in
theorem gL_law_X3_firstError : GoodIn wsL_law (wsV RL 170 RX3 yX3_firstError wsX3_firstError) := goodIn_app (goodIn_of _ (by decide +kernel)) ggL_law_X3_firstError
set_option maxRecDepth 20000 in
theorem ggL_law_X4_firstError : GoodIn wsL_law wsX4_firstError := goodIn_r _ [513, 174, 441, 514, 515, 516, 517, 5, 518, 519, 520, 521, 522, 523, 114, 115, 524, 525, 526, 527, 528, 529, 530, 531, 532, 533, 534, 535, 178, 179, 180, 536, 537, 538, 539, 540, 541, 542, 543, 544, 545, 546, 547, 1050, 1051, 1052, 1053, 1054, 1055, 1056, 1057, 1058, 1059, 1060, 1061, 1062, 1063, 1064] (by decide +kernel) (by decide +kernel)
set_option maxRecDepth 20000 in
theorem gL_law_X4_firstError : GoodIn wsL_law (wsV RL 173 RX4 yX4_firstError wsX4_firstError) := goodIn_app (goodIn_of _ (by decide +kernel)) ggL_law_X4_firstError
set_option maxRecDepth 20000 in
theorem ggL_law_L_carryOut : GoodIn wsL_law wsL_carryOut := goodIn_ca (goodIn_r _ [550, 121, 551, 552, 553, 2, 554, 141, 142, 25, 29, 462, 463, 464, 465, 24, 466, 467, 468, 28, 469, 96, 470, 471, 472, 473, 474, 475, 476, 477, 97, 478, 479, 480, 481, 102, 482, 483, 484, 485, 98, 486, 487, 488, 489, 99, 490, 491, 492, 493, 100, 494, 495, 496, 497, 498, 499, 500, 501, 101, 502, 503, 504, 505, 506, 507, 508, 509, 555, 556, 557, 558, 144, 145, 146, 147, 21, 20, 148, 149, 150, 151, 152, 153, 154, 155, 19, 35, 36, 17, 156, 46, 47, 48, 11, 12, 38, 49, 50, 51, 52, 53, 54, 55, 56, 57, 58, 59, 60, 157, 158, 159, 160, 161, 162, 163, 164, 559, 560, 561, 562, 16, 563, 564, 565, 566, 567, 568, 569, 570, 143, 83, 84, 165, 166, 167, 168, 571, 572, 573, 574, 575, 576, 577, 578, 214, 215, 216, 217, 218, 219, 220, 221, 222, 223, 224, 266, 70, 71, 15, 72, 39, 73, 74, 579, 580, 581, 582, 267, 268, 269, 270, 41, 271, 272, 273, 274, 44, 275, 276, 277, 278, 42, 279, 280, 281, 282, 43, 289, 290, 291, 292, 293, 80, 81, 82, 294, 90, 91, 92, 295, 296, 297, 298, 136, 137, 299, 300, 301, 302, 303, 304, 305, 306, 307, 308, 309, 310, 311, 243, 244, 245, 246, 358, 359, 360, 361, 362, 363, 364, 365, 366, 367, 368, 369, 40, 370, 371, 372, 373, 374, 375, 376, 377, 378, 379, 380, 381, 382, 383, 169, 62, 63, 64, 65, 66, 67, 68, 69, 75, 76, 77, 78, 37, 79, 85, 86, 87, 88, 89, 1041, 1042, 1043, 1044, 1045, 1046, 1047, 1048, 1049, 1072, 1073, 1074, 1075, 1076, 1077, 1078, 1079, 1080, 1081, 1082, 1083, 1084, 1085, 1086, 1065, 1066, 1067, 1068, 1069, 1070, 1071] (by decide +kernel) (by decide +kernel)) (goodIn_sub (fun _ h => List.mem_append_left _ (List.mem_append_right _ h)) (by decide +kernel))
set_option maxRecDepth 20000 in
theorem gL_law_L_carryOut : GoodIn wsL_law (va_wsS RL 174 yL_carryOut wsL_carryOut) := goodIn_app (goodIn_of _ (by decide +kernel)) ggL_law_L_carryOut
set_option maxRecDepth 20000 in
theorem ggL_law_X4_carryOut : GoodIn wsL_law wsX4_carryOut := goodIn_r _ [586, 174, 441, 519, 515, 516, 517, 5, 518, 514, 520, 521, 522, 523, 114, 115, 524, 525, 526, 527, 528, 529, 530, 531, 532, 533, 534, 535, 178, 179, 180, 536, 537, 538, 539, 540, 541, 542, 543, 544, 545, 546, 547, 184, 185, 186, 187, 191, 192, 193, 194, 195, 108, 107, 196, 197, 198, 587, 588, 589, 590, 188, 189, 190, 199, 200, 201, 202, 229, 230, 231, 232, 591, 592, 593, 594, 112, 113, 319, 320, 321, 322, 323, 324, 325, 326, 327, 328, 329, 330, 331, 332, 333, 334, 335, 336, 337, 338, 339, 340, 341, 342, 251, 252, 253, 254, 388, 389, 390, 391, 392, 393, 394, 395, 396, 397, 398, 399, 400, 401, 402, 403, 404, 405, 406, 407, 1050, 1051, 1052, 1053, 1054, 1055, 1056, 1057, 1058, 1059, 1060, 1061, 1062, 1063, 1064] (by decide +kernel) (by decide +kernel)
set_option maxRecDepth 20000 in
theorem gL_law_X4_carryOut : GoodIn wsL_law (wsV RL 177 RX4 yX4_carryOut wsX4_carryOut) := goodIn_app (goodIn_of _ (by decide +kernel)) ggL_law_X4_carryOut
set_option maxRecDepth 20000 in
theorem ggL_law_L_undo : GoodIn wsL_law wsL_undo := goodIn_ca (goodIn_r _ [597, 258, 598, 599, 600, 2, 601, 287, 288, 20, 21, 602, 603, 604, 605, 606, 607, 608, 17, 16, 157, 158, 159, 36, 160, 49, 161, 162, 163, 164, 50, 51, 52, 53, 54, 55, 56, 169, 62, 63, 15, 64, 39, 44, 65, 58, 59, 60, 66, 67, 68, 69, 70, 71, 72, 73, 74, 75, 76, 77, 78, 37, 79, 80, 81, 82, 83, 84, 85, 86, 87, 88, 40, 41, 42, 43, 89, 90, 91, 92, 1041, 1042, 1043, 1044, 1045, 1046, 1047, 1048, 1049, 1079, 1080, 1081, 1082, 1083, 1084, 1085, 1086, 1065, 1066, 1067, 1068, 1069, 1070, 1071] (by decide +kernel) (by decide +kernel)) (goodIn_sub (fun _ h => List.mem_append_right _ h) (by decide +kernel))
set_option maxRecDepth 20000 in
theorem gL_law_L_undo : GoodIn wsL_law (va_wsS RL 178 yL_undo wsL_undo) := goodIn_app (goodIn_of _ (by decide +kernel)) ggL_law_L_undo
set_option maxRecDepth 20000 in
theorem ggL_law_X4_undo : GoodIn wsL_law wsX4_undo := goodIn_r _ [612, 174, 195, 108, 107, 184, 185, 186, 5, 187, 196, 197, 198, 1050, 1051, 1052, 1053, 1054, 1055, 1056, 1057, 1058, 1059, 1060, 1061, 1062, 1063, 1064] (by decide +kernel) (by decide +kernel)
set_option maxRecDepth 20000 in
theorem gL_law_X4_undo : GoodIn wsL_law (wsV RL 180 RX4 yX4_undo wsX4_undo) := goodIn_app (goodIn_of _ (by decide +kernel)) ggL_law_X4_undo
set_option maxRecDepth 20000 in
theorem ggL_law_X3_savedStates : GoodIn wsL_law wsX3_savedStates := goodIn_r _ [616, 21, 1041, 1042, 1043, 1044, 1045, 1046, 1047, 1048, 1049] (by decide +kernel) (by decide +kernel)
set_option maxRecDepth 20000 in
theorem gL_law_X3_savedStates : GoodIn wsL_law (wsV RL 181 RX3 yX3_savedStates wsX3_savedStates) := goodIn_app (goodIn_of _ (by decide +kernel)) ggL_law_X3_savedStates
set_option maxRecDepth 20000 in
theorem ggL_law_X4_savedStates : GoodIn wsL_law wsX4_savedStates := goodIn_r _ [620, 174, 195, 1050, 1051, 1052, 1053, 1054, 1055, 1056, 1057, 1058, 1059, 1060, 1061, 1062, 1063, 1064] (by decide +kernel) (by decide +kernel)
set_option maxRecDepth 20000 in
theorem gL_law_X4_savedStates : GoodIn wsL_law (wsV RL 184 RX4 yX4_savedStates wsX4_savedStates) := goodIn_app (goodIn_of _ (by decide +kernel)) ggL_law_X4_savedStates
set_option maxRecDepth 20000 in
theorem ggL_law_L_keep : GoodIn wsL_law wsL_keep := goodIn_ca (goodIn_r _ [623, 120, 624, 625, 626, 2, 627, 22, 16, 628, 629, 630, 129, 130, 152, 153, 154, 155, 19, 35, 36, 17, 156, 46, 47, 48, 11, 12, 38, 49, 50, 51, 52, 53, 54, 55, 56, 57, 58, 59, 60, 157, 158, 159, 160, 161, 162, 163, 164, 631, 632, 633, 15, 634, 44, 1041, 1042, 1043, 1044, 1045, 1046, 1047, 1048, 1049, 1079, 1080, 1081, 1082, 1083, 1084, 1085, 1086, 1065, 1066, 1067, 1068, 1069, 1070, 1071] (by decide +kernel) (by decide +kernel)) (goodIn_sub (fun _ h => List.mem_append_left _ (List.mem_append_left _ (List.mem_append_right _ h))) (by decide +kernel))
set_option maxRecDepth 20000 in
theorem gL_law_L_keep : GoodIn wsL_law (va_wsS RL 185 yL_keep wsL_keep) := goodIn_app (goodIn_of _ (by decide +kernel)) ggL_law_L_keep
set_option maxRecDepth 20000 in
theorem ggL_law_X4_keep : GoodIn wsL_law wsX4_keep := goodIn_r _ [638, 174, 107, 109, 110, 178, 179, 5, 180, 184, 185, 186, 187, 196, 197, 198, 639, 640, 641, 642, 323, 324, 325, 326, 327, 112, 113, 328, 329, 330, 331, 332, 333, 334, 1050, 1051, 1052, 1053, 1054, 1055, 1056, 1057, 1058, 1059, 1060, 1061, 1062, 1063, 1064] (by decide +kernel) (by decide +kernel)
set_option maxRecDepth 20000 in
theorem gL_law_X4_keep : GoodIn wsL_law (wsV RL 187 RX4 yX4_keep wsX4_keep) := goodIn_app (goodIn_of _ (by decide +kernel)) ggL_law_X4_keep
set_option maxRecDepth 20000 in
theorem ggL_law_L_goBack : GoodIn wsL_law wsL_goBack := goodIn_ca (goodIn_ca (goodIn_r _ [645, 120, 258, 646, 647, 648, 2, 649, 287, 288, 22, 16, 628, 629, 630, 129, 130, 602, 603, 604, 144, 145, 146, 147, 21, 20, 148, 149, 150, 151, 152, 153, 154, 155, 19, 35, 36, 17, 156, 46, 47, 48, 11, 12, 38, 49, 50, 51, 52, 53, 54, 55, 56, 57, 58, 59, 60, 157, 158, 159, 160, 161, 162, 163, 164, 605, 606, 607, 608, 169, 62, 63, 15, 64, 39, 44, 65, 66, 67, 68, 69, 70, 71, 72, 73, 74, 75, 76, 77, 78, 37, 79, 80, 81, 82, 83, 84, 85, 86, 87, 88, 40, 41, 42, 43, 89, 90, 91, 92, 631, 632, 633, 634, 1041, 1042, 1043, 1044, 1045, 1046, 1047, 1048, 1049, 1079, 1080, 1081, 1082, 1083, 1084, 1085, 1086, 1065, 1066, 1067, 1068, 1069, 1070, 1071] (by decide +kernel) (by decide +kernel)) (goodIn_sub (fun _ h => List.mem_append_right _ h) (by decide +kernel))) (goodIn_sub (fun _ h => List.mem_append_left _ (List.mem_append_left _ (List.mem_append_right _ h))) (by decide +kernel))
set_option maxRecDepth 20000 in
theorem gL_law_L_goBack : GoodIn wsL_law (va_wsS RL 188 yL_goBack wsL_goBack) := goodIn_app (goodIn_of _ (by decide +kernel)) ggL_law_L_goBack
set_option maxRecDepth 20000 in
theorem ggL_law_X4_goBack : GoodIn wsL_law wsX4_goBack := goodIn_r _ [653, 174, 110, 109, 107, 178, 179, 5, 180, 184, 185, 186, 187, 191, 192, 193, 194, 195, 108, 196, 197, 198, 639, 640, 641, 642, 323, 324, 325, 326, 327, 112, 113, 328, 329, 330, 331, 332, 333, 334, 1050, 1051, 1052, 1053, 1054, 1055, 1056, 1057, 1058, 1059, 1060, 1061, 1062, 1063, 1064] (by decide +kernel) (by decide +kernel)
set_option maxRecDepth 20000 in
theorem gL_law_X4_goBack : GoodIn wsL_law (wsV RL 190 RX4 yX4_goBack wsX4_goBack) := goodIn_app (goodIn_of _ (by decide +kernel)) ggL_law_X4_goBack
set_option maxRecDepth 20000 in
theorem ggL_law_L_ownerAt : GoodIn wsL_law wsL_ownerAt := goodIn_ca (goodIn_r _ [656, 120, 657, 658, 659, 2, 660, 17, 126, 127, 128, 129, 130, 131, 73, 74, 661, 90, 91, 36, 92, 49, 1041, 1042, 1043, 1044, 1045, 1046, 1047, 1048, 1049, 1079, 1080, 1081, 1082, 1083, 1084, 1085, 1086] (by decide +kernel) (by decide +kernel)) (goodIn_sub (fun _ h => List.mem_append_left _ (List.mem_append_left _ (List.mem_append_right _ h))) (by decide +kernel))
set_option maxRecDepth 20000 in
theorem gL_law_L_ownerAt : GoodIn wsL_law (va_wsS RL 191 yL_ownerAt wsL_ownerAt) := goodIn_app (goodIn_of _ (by decide +kernel)) ggL_law_L_ownerAt
set_option maxRecDepth 20000 in
theorem ggL_law_X4_ownerAt : GoodIn wsL_law wsX4_ownerAt := goodIn_r _ [665, 174, 107, 175, 176, 5, 177, 178, 179, 180, 184, 185, 186, 187, 1050, 1051, 1052, 1053, 1054, 1055, 1056, 1057, 1058, 1059, 1060, 1061, 1062, 1063, 1064] (by decide +kernel) (by decide +kernel)
set_option maxRecDepth 20000 in
theorem gL_law_X4_ownerAt : GoodIn wsL_law (wsV RL 194 RX4 yX4_ownerAt wsX4_ownerAt) := goodIn_app (goodIn_of _ (by decide +kernel)) ggL_law_X4_ownerAt
set_option maxRecDepth 20000 in
theorem ggL_law_L_heightAt : GoodIn wsL_law wsL_heightAt := goodIn_ca (goodIn_r _ [668, 120, 669, 670, 671, 2, 672, 17, 126, 127, 128, 129, 130, 131, 73, 74, 673, 674, 675, 36, 676, 50, 1041, 1042, 1043, 1044, 1045, 1046, 1047, 1048, 1049, 1079, 1080, 1081, 1082, 1083, 1084, 1085, 1086] (by decide +kernel) (by decide +kernel)) (goodIn_sub (fun _ h => List.mem_append_left _ (List.mem_append_left _ (List.mem_append_right _ h))) (by decide +kernel))
set_option maxRecDepth 20000 in
theorem gL_law_L_heightAt : GoodIn wsL_law (va_wsS RL 195 yL_heightAt wsL_heightAt) := goodIn_app (goodIn_of _ (by decide +kernel)) ggL_law_L_heightAt
set_option maxRecDepth 20000 in
theorem ggL_law_X4_heightAt : GoodIn wsL_law wsX4_heightAt := goodIn_r _ [680, 174, 107, 175, 176, 5, 177, 178, 179, 180, 184, 185, 186, 187, 1050, 1051, 1052, 1053, 1054, 1055, 1056, 1057, 1058, 1059, 1060, 1061, 1062, 1063, 1064] (by decide +kernel) (by decide +kernel)
set_option maxRecDepth 20000 in
theorem gL_law_X4_heightAt : GoodIn wsL_law (wsV RL 197 RX4 yX4_heightAt wsX4_heightAt) := goodIn_app (goodIn_of _ (by decide +kernel)) ggL_law_X4_heightAt
set_option maxRecDepth 20000 in
theorem ggL_law_L_plotSizeAt : GoodIn wsL_law wsL_plotSizeAt := goodIn_ca (goodIn_r _ [683, 120, 684, 685, 686, 2, 687, 16, 126, 127, 128, 129, 130, 131, 73, 74, 266, 70, 71, 15, 72, 39, 279, 280, 281, 282, 43, 271, 272, 273, 274, 44, 1041, 1042, 1043, 1044, 1045, 1046, 1047, 1048, 1049, 1065, 1066, 1067, 1068, 1069, 1070, 1071] (by decide +kernel) (by decide +kernel)) (goodIn_sub (fun _ h => List.mem_append_left _ (List.mem_append_left _ (List.mem_append_right _ h))) (by decide +kernel))
set_option maxRecDepth 20000 in
theorem gL_law_L_plotSizeAt : GoodIn wsL_law (va_wsS RL 198 yL_plotSizeAt wsL_plotSizeAt) := goodIn_app (goodIn_of _ (by decide +kernel)) ggL_law_L_plotSizeAt
set_option maxRecDepth 20000 in
theorem ggL_law_X4_plotSizeAt : GoodIn wsL_law wsX4_plotSizeAt := goodIn_r _ [691, 174, 113, 175, 176, 5, 177, 178, 179, 180, 319, 320, 321, 322, 323, 112, 324, 325, 326, 327, 328, 329, 330, 331, 332, 333, 334, 107, 184, 185, 186, 187, 1050, 1051, 1052, 1053, 1054, 1055, 1056, 1057, 1058, 1059, 1060, 1061, 1062, 1063, 1064] (by decide +kernel) (by decide +kernel)
set_option maxRecDepth 20000 in
theorem gL_law_X4_plotSizeAt : GoodIn wsL_law (wsV RL 200 RX4 yX4_plotSizeAt wsX4_plotSizeAt) := goodIn_app (goodIn_of _ (by decide +kernel)) ggL_law_X4_plotSizeAt
set_option maxRecDepth 20000 in
theorem ggL_law_L_plotRankAt : GoodIn wsL_law wsL_plotRankAt := goodIn_ca (goodIn_r _ [694, 120, 695, 696, 697, 2, 698, 16, 126, 127, 128, 129, 130, 131, 73, 74, 266, 70, 71, 15, 72, 39, 1041, 1042, 1043, 1044, 1045, 1046, 1047, 1048, 1049, 1065, 1066, 1067, 1068, 1069, 1070, 1071] (by decide +kernel) (by decide +kernel)) (goodIn_sub (fun _ h => List.mem_append_left _ (List.mem_append_left _ (List.mem_append_right _ h))) (by decide +kernel))
set_option maxRecDepth 20000 in
theorem gL_law_L_plotRankAt : GoodIn wsL_law (va_wsS RL 201 yL_plotRankAt wsL_plotRankAt) := goodIn_app (goodIn_of _ (by decide +kernel)) ggL_law_L_plotRankAt
set_option maxRecDepth 20000 in
theorem ggL_law_X4_plotRankAt : GoodIn wsL_law wsX4_plotRankAt := goodIn_r _ [702, 174, 175, 176, 5, 177, 178, 179, 180, 319, 320, 321, 322, 323, 112, 113, 324, 325, 326, 327, 328, 329, 330, 331, 332, 333, 334, 107, 184, 185, 186, 187, 1050, 1051, 1052, 1053, 1054, 1055, 1056, 1057, 1058, 1059, 1060, 1061, 1062, 1063, 1064] (by decide +kernel) (by decide +kernel)
set_option maxRecDepth 20000 in
theorem gL_law_X4_plotRankAt : GoodIn wsL_law (wsV RL 203 RX4 yX4_plotRankAt wsX4_plotRankAt) := goodIn_app (goodIn_of _ (by decide +kernel)) ggL_law_X4_plotRankAt
set_option maxRecDepth 20000 in
theorem ggL_law_L_plotPriceAt : GoodIn wsL_law wsL_plotPriceAt := goodIn_ca (goodIn_r _ [705, 120, 706, 707, 708, 2, 709, 17, 16, 126, 127, 128, 129, 130, 131, 73, 74, 266, 70, 71, 15, 72, 39, 279, 280, 281, 282, 43, 271, 272, 273, 274, 44, 710, 300, 301, 36, 302, 52, 1041, 1042, 1043, 1044, 1045, 1046, 1047, 1048, 1049, 1065, 1066, 1067, 1068, 1069, 1070, 1071, 1079, 1080, 1081, 1082, 1083, 1084, 1085, 1086] (by decide +kernel) (by decide +kernel)) (goodIn_sub (fun _ h => List.mem_append_left _ (List.mem_append_left _ (List.mem_append_right _ h))) (by decide +kernel))
set_option maxRecDepth 20000 in
theorem gL_law_L_plotPriceAt : GoodIn wsL_law (va_wsS RL 204 yL_plotPriceAt wsL_plotPriceAt) := goodIn_app (goodIn_of _ (by decide +kernel)) ggL_law_L_plotPriceAt
set_option maxRecDepth 20000 in
theorem ggL_law_X4_plotPriceAt : GoodIn wsL_law wsX4_plotPriceAt := goodIn_r _ [714, 174, 113, 107, 175, 176, 5, 177, 178, 179, 180, 184, 185, 186, 187, 319, 320, 321, 322, 323, 112, 324, 325, 326, 327, 328, 329, 330, 331, 332, 333, 334, 1050, 1051, 1052, 1053, 1054, 1055, 1056, 1057, 1058, 1059, 1060, 1061, 1062, 1063, 1064] (by decide +kernel) (by decide +kernel)
set_option maxRecDepth 20000 in
theorem gL_law_X4_plotPriceAt : GoodIn wsL_law (wsV RL 206 RX4 yX4_plotPriceAt wsX4_plotPriceAt) := goodIn_app (goodIn_of _ (by decide +kernel)) ggL_law_X4_plotPriceAt
set_option maxRecDepth 20000 in
theorem ggL_law_X3_plots : GoodIn wsL_law wsX3_plots := goodIn_r _ [718, 16, 631, 632, 633, 15, 634, 44, 1041, 1042, 1043, 1044, 1045, 1046, 1047, 1048, 1049, 1065, 1066, 1067, 1068, 1069, 1070, 1071] (by decide +kernel) (by decide +kernel)
set_option maxRecDepth 20000 in
theorem gL_law_X3_plots : GoodIn wsL_law (wsV RL 207 RX3 yX3_plots wsX3_plots) := goodIn_app (goodIn_of _ (by decide +kernel)) ggL_law_X3_plots
set_option maxRecDepth 20000 in
theorem ggL_law_X4_plots : GoodIn wsL_law wsX4_plots := goodIn_r _ [722, 174, 639, 640, 641, 5, 642, 323, 324, 325, 326, 327, 112, 113, 328, 329, 330, 331, 332, 333, 334, 107, 1050, 1051, 1052, 1053, 1054, 1055, 1056, 1057, 1058, 1059, 1060, 1061, 1062, 1063, 1064] (by decide +kernel) (by decide +kernel)
set_option maxRecDepth 20000 in
theorem gL_law_X4_plots : GoodIn wsL_law (wsV RL 210 RX4 yX4_plots wsX4_plots) := goodIn_app (goodIn_of _ (by decide +kernel)) ggL_law_X4_plots
set_option maxRecDepth 20000 in
theorem ggL_law_L_plotOwner : GoodIn wsL_law wsL_plotOwner := goodIn_ca (goodIn_r _ [725, 120, 726, 727, 728, 2, 729, 16, 730, 731, 732, 733, 129, 130, 734, 272, 273, 15, 274, 44, 735, 736, 737, 738, 40, 271, 1041, 1042, 1043, 1044, 1045, 1046, 1047, 1048, 1049, 1065, 1066, 1067, 1068, 1069, 1070, 1071] (by decide +kernel) (by decide +kernel)) (goodIn_sub (fun _ h => List.mem_append_left _ (List.mem_append_left _ (List.mem_append_right _ h))) (by decide +kernel))
set_option maxRecDepth 20000 in
theorem gL_law_L_plotOwner : GoodIn wsL_law (va_wsS RL 211 yL_plotOwner wsL_plotOwner) := goodIn_app (goodIn_of _ (by decide +kernel)) ggL_law_L_plotOwner
set_option maxRecDepth 20000 in
theorem ggL_law_X4_plotOwner : GoodIn wsL_law wsX4_plotOwner := goodIn_r _ [742, 174, 743, 744, 745, 5, 746, 639, 640, 641, 642, 323, 324, 325, 326, 327, 112, 113, 328, 329, 330, 331, 332, 333, 334, 107, 178, 179, 180, 400, 401, 402, 403, 184, 185, 186, 187, 1050, 1051, 1052, 1053, 1054, 1055, 1056, 1057, 1058, 1059, 1060, 1061, 1062, 1063, 1064] (by decide +kernel) (by decide +kernel)
set_option maxRecDepth 20000 in
theorem gL_law_X4_plotOwner : GoodIn wsL_law (wsV RL 213 RX4 yX4_plotOwner wsX4_plotOwner) := goodIn_app (goodIn_of _ (by decide +kernel)) ggL_law_X4_plotOwner
set_option maxRecDepth 20000 in
theorem ggL_law_L_plotX : GoodIn wsL_law wsL_plotX := goodIn_ca (goodIn_r _ [749, 120, 750, 751, 752, 2, 753, 16, 730, 731, 732, 733, 129, 130, 734, 272, 273, 15, 274, 44, 267, 268, 269, 270, 41, 271, 1041, 1042, 1043, 1044, 1045, 1046, 1047, 1048, 1049, 1065, 1066, 1067, 1068, 1069, 1070, 1071] (by decide +kernel) (by decide +kernel)) (goodIn_sub (fun _ h => List.mem_append_left _ (List.mem_append_left _ (List.mem_append_right _ h))) (by decide +kernel))
set_option maxRecDepth 20000 in
theorem gL_law_L_plotX : GoodIn wsL_law (va_wsS RL 214 yL_plotX wsL_plotX) := goodIn_app (goodIn_of _ (by decide +kernel)) ggL_law_L_plotX
set_option maxRecDepth 20000 in
theorem ggL_law_X4_plotX : GoodIn wsL_law wsX4_plotX := goodIn_r _ [757, 174, 112, 743, 744, 745, 5, 746, 639, 640, 641, 642, 323, 324, 325, 326, 327, 113, 328, 329, 330, 331, 332, 333, 334, 107, 178, 179, 180, 184, 185, 186, 187, 1050, 1051, 1052, 1053, 1054, 1055, 1056, 1057, 1058, 1059, 1060, 1061, 1062, 1063, 1064] (by decide +kernel) (by decide +kernel)
set_option maxRecDepth 20000 in
theorem gL_law_X4_plotX : GoodIn wsL_law (wsV RL 216 RX4 yX4_plotX wsX4_plotX) := goodIn_app (goodIn_of _ (by decide +kernel)) ggL_law_X4_plotX
set_option maxRecDepth 20000 in
theorem ggL_law_L_plotY : GoodIn wsL_law wsL_plotY := goodIn_ca (goodIn_r _ [760, 120, 761, 762, 763, 2, 764, 16, 730, 731, 732, 733, 129, 130, 734, 272, 273, 15, 274, 44, 275, 276, 277, 278, 42, 271, 1041, 1042, 1043, 1044, 1045, 1046, 1047, 1048, 1049, 1065, 1066, 1067, 1068, 1069, 1070, 1071] (by decide +kernel) (by decide +kernel)) (goodIn_sub (fun _ h => List.mem_append_left _ (List.mem_append_left _ (List.mem_append_right _ h))) (by decide +kernel))
set_option maxRecDepth 20000 in
theorem gL_law_L_plotY : GoodIn wsL_law (va_wsS RL 217 yL_plotY wsL_plotY) := goodIn_app (goodIn_of _ (by decide +kernel)) ggL_law_L_plotY
set_option maxRecDepth 20000 in
theorem ggL_law_X4_plotY : GoodIn wsL_law wsX4_plotY := goodIn_r _ [768, 174, 112, 743, 744, 745, 5, 746, 639, 640, 641, 642, 323, 324, 325, 326, 327, 113, 328, 329, 330, 331, 332, 333, 334, 107, 178, 179, 180, 184, 185, 186, 187, 1050, 1051, 1052, 1053, 1054, 1055, 1056, 1057, 1058, 1059, 1060, 1061, 1062, 1063, 1064] (by decide +kernel) (by decide +kernel)
set_option maxRecDepth 20000 in
theorem gL_law_X4_plotY : GoodIn wsL_law (wsV RL 219 RX4 yX4_plotY wsX4_plotY) := goodIn_app (goodIn_of _ (by decide +kernel)) ggL_law_X4_plotY
set_option maxRecDepth 20000 in
theorem ggL_law_L_plotSize : GoodIn wsL_law wsL_plotSize := goodIn_ca (goodIn_r _ [771, 120, 772, 773, 774, 2, 775, 16, 730, 731, 732, 733, 129, 130, 734, 272, 273, 15, 274, 44, 279, 280, 281, 282, 43, 271, 1041, 1042, 1043, 1044, 1045, 1046, 1047, 1048, 1049, 1065, 1066, 1067, 1068, 1069, 1070, 1071] (by decide +kernel) (by decide +kernel)) (goodIn_sub (fun _ h => List.mem_append_left _ (List.mem_append_left _ (List.mem_append_right _ h))) (by decide +kernel))
set_option maxRecDepth 20000 in
theorem gL_law_L_plotSize : GoodIn wsL_law (va_wsS RL 220 yL_plotSize wsL_plotSize) := goodIn_app (goodIn_of _ (by decide +kernel)) ggL_law_L_plotSize
set_option maxRecDepth 20000 in
theorem ggL_law_X4_plotSize : GoodIn wsL_law wsX4_plotSize := goodIn_r _ [779, 174, 113, 743, 744, 745, 5, 746, 639, 640, 641, 642, 323, 324, 325, 326, 327, 112, 328, 329, 330, 331, 332, 333, 334, 107, 178, 179, 180, 184, 185, 186, 187, 1050, 1051, 1052, 1053, 1054, 1055, 1056, 1057, 1058, 1059, 1060, 1061, 1062, 1063, 1064] (by decide +kernel) (by decide +kernel)
set_option maxRecDepth 20000 in
theorem gL_law_X4_plotSize : GoodIn wsL_law (wsV RL 222 RX4 yX4_plotSize wsX4_plotSize) := goodIn_app (goodIn_of _ (by decide +kernel)) ggL_law_X4_plotSize
set_option maxRecDepth 20000 in
theorem ggL_law_L_plotsOf : GoodIn wsL_law wsL_plotsOf := goodIn_ca (goodIn_r _ [782, 120, 783, 784, 785, 2, 786, 16, 132, 133, 134, 129, 130, 135, 136, 137, 366, 367, 368, 15, 369, 44, 40, 1041, 1042, 1043, 1044, 1045, 1046, 1047, 1048, 1049, 1065, 1066, 1067, 1068, 1069, 1070, 1071] (by decide +kernel) (by decide +kernel)) (goodIn_sub (fun _ h => List.mem_append_left _ (List.mem_append_left _ (List.mem_append_right _ h))) (by decide +kernel))
set_option maxRecDepth 20000 in
theorem gL_law_L_plotsOf : GoodIn wsL_law (va_wsS RL 223 yL_plotsOf wsL_plotsOf) := goodIn_app (goodIn_of _ (by decide +kernel)) ggL_law_L_plotsOf
set_option maxRecDepth 20000 in
theorem ggL_law_X4_plotsOf : GoodIn wsL_law wsX4_plotsOf := goodIn_r _ [790, 174, 181, 182, 5, 183, 178, 179, 180, 396, 397, 398, 399, 323, 324, 325, 326, 327, 112, 113, 328, 329, 330, 331, 332, 333, 334, 107, 400, 401, 402, 403, 184, 185, 186, 187, 1050, 1051, 1052, 1053, 1054, 1055, 1056, 1057, 1058, 1059, 1060, 1061, 1062, 1063, 1064] (by decide +kernel) (by decide +kernel)
set_option maxRecDepth 20000 in
theorem gL_law_X4_plotsOf : GoodIn wsL_law (wsV RL 225 RX4 yX4_plotsOf wsX4_plotsOf) := goodIn_app (goodIn_of _ (by decide +kernel)) ggL_law_X4_plotsOf
set_option maxRecDepth 20000 in
theorem ggL_law_L_areaByPlots : GoodIn wsL_law wsL_areaByPlots := goodIn_ca (goodIn_r _ [793, 120, 794, 795, 796, 2, 797, 16, 132, 133, 134, 129, 130, 135, 136, 137, 798, 799, 800, 15, 801, 44, 40, 43, 1041, 1042, 1043, 1044, 1045, 1046, 1047, 1048, 1049, 1065, 1066, 1067, 1068, 1069, 1070, 1071] (by decide +kernel) (by decide +kernel)) (goodIn_sub (fun _ h => List.mem_append_left _ (List.mem_append_left _ (List.mem_append_right _ h))) (by decide +kernel))
set_option maxRecDepth 20000 in
theorem gL_law_L_areaByPlots : GoodIn wsL_law (va_wsS RL 226 yL_areaByPlots wsL_areaByPlots) := goodIn_app (goodIn_of _ (by decide +kernel)) ggL_law_L_areaByPlots
set_option maxRecDepth 20000 in
theorem ggL_law_X4_areaByPlots : GoodIn wsL_law wsX4_areaByPlots := goodIn_r _ [805, 174, 181, 182, 5, 183, 178, 179, 180, 806, 807, 808, 809, 107, 184, 185, 186, 187, 1050, 1051, 1052, 1053, 1054, 1055, 1056, 1057, 1058, 1059, 1060, 1061, 1062, 1063, 1064] (by decide +kernel) (by decide +kernel)
set_option maxRecDepth 20000 in
theorem gL_law_X4_areaByPlots : GoodIn wsL_law (wsV RL 228 RX4 yX4_areaByPlots wsX4_areaByPlots) := goodIn_app (goodIn_of _ (by decide +kernel)) ggL_law_X4_areaByPlots
set_option maxRecDepth 20000 in
theorem ggL_law_L_areaByCells : GoodIn wsL_law wsL_areaByCells := goodIn_ca (goodIn_r _ [812, 120, 813, 814, 815, 2, 816, 17, 132, 133, 134, 129, 130, 135, 136, 137, 817, 818, 819, 36, 820, 49, 50, 1041, 1042, 1043, 1044, 1045, 1046, 1047, 1048, 1049, 1079, 1080, 1081, 1082, 1083, 1084, 1085, 1086] (by decide +kernel) (by decide +kernel)) (goodIn_sub (fun _ h => List.mem_append_left _ (List.mem_append_left _ (List.mem_append_right _ h))) (by decide +kernel))
set_option maxRecDepth 20000 in
theorem gL_law_L_areaByCells : GoodIn wsL_law (va_wsS RL 229 yL_areaByCells wsL_areaByCells) := goodIn_app (goodIn_of _ (by decide +kernel)) ggL_law_L_areaByCells
set_option maxRecDepth 20000 in
theorem ggL_law_X4_areaByCells : GoodIn wsL_law wsX4_areaByCells := goodIn_r _ [824, 174, 181, 182, 5, 183, 178, 179, 180, 806, 807, 808, 809, 107, 184, 185, 186, 187, 1050, 1051, 1052, 1053, 1054, 1055, 1056, 1057, 1058, 1059, 1060, 1061, 1062, 1063, 1064] (by decide +kernel) (by decide +kernel)
set_option maxRecDepth 20000 in
theorem gL_law_X4_areaByCells : GoodIn wsL_law (wsV RL 231 RX4 yX4_areaByCells wsX4_areaByCells) := goodIn_app (goodIn_of _ (by decide +kernel)) ggL_law_X4_areaByCells
set_option maxRecDepth 20000 in
theorem ggL_law_L_fenceByPlots : GoodIn wsL_law wsL_fenceByPlots := goodIn_ca (goodIn_r _ [827, 120, 828, 829, 830, 2, 831, 16, 132, 133, 134, 129, 130, 135, 136, 137, 832, 833, 834, 15, 835, 44, 40, 41, 42, 43, 836, 837, 838, 839, 840, 841, 842, 843, 37, 89, 90, 91, 36, 92, 49, 73, 74, 1041, 1042, 1043, 1044, 1045, 1046, 1047, 1048, 1049, 1065, 1066, 1067, 1068, 1069, 1070, 1071, 1079, 1080, 1081, 1082, 1083, 1084, 1085, 1086] (by decide +kernel) (by decide +kernel)) (goodIn_sub (fun _ h => List.mem_append_left _ (List.mem_append_left _ (List.mem_append_right _ h))) (by decide +kernel))
set_option maxRecDepth 20000 in
theorem gL_law_L_fenceByPlots : GoodIn wsL_law (va_wsS RL 232 yL_fenceByPlots wsL_fenceByPlots) := goodIn_app (goodIn_of _ (by decide +kernel)) ggL_law_L_fenceByPlots
set_option maxRecDepth 20000 in
theorem ggL_law_X4_fenceByPlots : GoodIn wsL_law wsX4_fenceByPlots := goodIn_r _ [847, 174, 181, 182, 5, 183, 178, 179, 180, 848, 849, 850, 851, 852, 853, 854, 855, 107, 184, 185, 186, 187, 1050, 1051, 1052, 1053, 1054, 1055, 1056, 1057, 1058, 1059, 1060, 1061, 1062, 1063, 1064] (by decide +kernel) (by decide +kernel)
set_option maxRecDepth 20000 in
theorem gL_law_X4_fenceByPlots : GoodIn wsL_law (wsV RL 234 RX4 yX4_fenceByPlots wsX4_fenceByPlots) := goodIn_app (goodIn_of _ (by decide +kernel)) ggL_law_X4_fenceByPlots
set_option maxRecDepth 20000 in
theorem ggL_law_L_fenceByCells : GoodIn wsL_law wsL_fenceByCells := goodIn_ca (goodIn_r _ [858, 120, 859, 860, 861, 2, 862, 17, 132, 133, 134, 129, 130, 135, 136, 137, 863, 864, 865, 36, 866, 294, 90, 91, 92, 49, 73, 74, 867, 868, 869, 870, 1041, 1042, 1043, 1044, 1045, 1046, 1047, 1048, 1049, 1079, 1080, 1081, 1082, 1083, 1084, 1085, 1086] (by decide +kernel) (by decide +kernel)) (goodIn_sub (fun _ h => List.mem_append_left _ (List.mem_append_left _ (List.mem_append_right _ h))) (by decide +kernel))
set_option maxRecDepth 20000 in
theorem gL_law_L_fenceByCells : GoodIn wsL_law (va_wsS RL 235 yL_fenceByCells wsL_fenceByCells) := goodIn_app (goodIn_of _ (by decide +kernel)) ggL_law_L_fenceByCells
set_option maxRecDepth 20000 in
theorem ggL_law_X4_fenceByCells : GoodIn wsL_law wsX4_fenceByCells := goodIn_r _ [874, 174, 181, 182, 5, 183, 178, 179, 180, 848, 849, 850, 851, 852, 853, 854, 855, 107, 184, 185, 186, 187, 1050, 1051, 1052, 1053, 1054, 1055, 1056, 1057, 1058, 1059, 1060, 1061, 1062, 1063, 1064] (by decide +kernel) (by decide +kernel)
set_option maxRecDepth 20000 in
theorem gL_law_X4_fenceByCells : GoodIn wsL_law (wsV RL 237 RX4 yX4_fenceByCells wsX4_fenceByCells) := goodIn_app (goodIn_of _ (by decide +kernel)) ggL_law_X4_fenceByCells
set_option maxRecDepth 20000 in
theorem ggL_law_L_fenceBetween : GoodIn wsL_law wsL_fenceBetween := goodIn_ca (goodIn_r _ [877, 120, 878, 879, 880, 2, 881, 17, 132, 133, 134, 129, 130, 135, 136, 137, 863, 864, 865, 36, 866, 294, 90, 91, 92, 49, 73, 74, 867, 868, 869, 870, 1041, 1042, 1043, 1044, 1045, 1046, 1047, 1048, 1049, 1079, 1080, 1081, 1082, 1083, 1084, 1085, 1086] (by decide +kernel) (by decide +kernel)) (goodIn_sub (fun _ h => List.mem_append_left _ (List.mem_append_left _ (List.mem_append_right _ h))) (by decide +kernel))
set_option maxRecDepth 20000 in
theorem gL_law_L_fenceBetween : GoodIn wsL_law (va_wsS RL 238 yL_fenceBetween wsL_fenceBetween) := goodIn_app (goodIn_of _ (by decide +kernel)) ggL_law_L_fenceBetween
set_option maxRecDepth 20000 in
theorem ggL_law_X4_fenceBetween : GoodIn wsL_law wsX4_fenceBetween := goodIn_r _ [885, 174, 181, 182, 5, 183, 178, 179, 180, 852, 853, 854, 855, 107, 184, 185, 186, 187, 1050, 1051, 1052, 1053, 1054, 1055, 1056, 1057, 1058, 1059, 1060, 1061, 1062, 1063, 1064] (by decide +kernel) (by decide +kernel)
set_option maxRecDepth 20000 in
theorem gL_law_X4_fenceBetween : GoodIn wsL_law (wsV RL 240 RX4 yX4_fenceBetween wsX4_fenceBetween) := goodIn_app (goodIn_of _ (by decide +kernel)) ggL_law_X4_fenceBetween
set_option maxRecDepth 20000 in
theorem ggL_law_L_largestPlotOf : GoodIn wsL_law wsL_largestPlotOf := goodIn_ca (goodIn_r _ [888, 120, 889, 890, 891, 2, 892, 16, 132, 133, 134, 129, 130, 135, 136, 137, 893, 894, 895, 15, 896, 44, 40, 43, 1041, 1042, 1043, 1044, 1045, 1046, 1047, 1048, 1049, 1065, 1066, 1067, 1068, 1069, 1070, 1071] (by decide +kernel) (by decide +kernel)) (goodIn_sub (fun _ h => List.mem_append_left _ (List.mem_append_left _ (List.mem_append_right _ h))) (by decide +kernel))
set_option maxRecDepth 20000 in
theorem gL_law_L_largestPlotOf : GoodIn wsL_law (va_wsS RL 241 yL_largestPlotOf wsL_largestPlotOf) := goodIn_app (goodIn_of _ (by decide +kernel)) ggL_law_L_largestPlotOf
set_option maxRecDepth 20000 in
theorem ggL_law_X4_largestPlotOf : GoodIn wsL_law wsX4_largestPlotOf := goodIn_r _ [900, 174, 181, 182, 5, 183, 178, 179, 180, 901, 902, 903, 904, 323, 113, 324, 325, 326, 327, 112, 328, 329, 330, 331, 332, 333, 334, 107, 400, 401, 402, 403, 184, 185, 186, 187, 1050, 1051, 1052, 1053, 1054, 1055, 1056, 1057, 1058, 1059, 1060, 1061, 1062, 1063, 1064] (by decide +kernel) (by decide +kernel)
set_option maxRecDepth 20000 in
theorem gL_law_X4_largestPlotOf : GoodIn wsL_law (wsV RL 243 RX4 yX4_largestPlotOf wsX4_largestPlotOf) := goodIn_app (goodIn_of _ (by decide +kernel)) ggL_law_X4_largestPlotOf
set_option maxRecDepth 20000 in
theorem ggL_law_L_firstToLose : GoodIn wsL_law wsL_firstToLose := goodIn_ca (goodIn_r _ [907, 120, 908, 909, 910, 2, 911, 16, 263, 264, 265, 129, 130, 375, 376, 377, 15, 378, 44, 40, 43, 1041, 1042, 1043, 1044, 1045, 1046, 1047, 1048, 1049, 1065, 1066, 1067, 1068, 1069, 1070, 1071] (by decide +kernel) (by decide +kernel)) (goodIn_sub (fun _ h => List.mem_append_left _ (List.mem_append_left _ (List.mem_append_right _ h))) (by decide +kernel))
set_option maxRecDepth 20000 in
theorem gL_law_L_firstToLose : GoodIn wsL_law (va_wsS RL 244 yL_firstToLose wsL_firstToLose) := goodIn_app (goodIn_of _ (by decide +kernel)) ggL_law_L_firstToLose
set_option maxRecDepth 20000 in
theorem ggL_law_X4_firstToLose : GoodIn wsL_law wsX4_firstToLose := goodIn_r _ [915, 174, 316, 317, 5, 318, 178, 179, 180, 404, 405, 406, 407, 323, 113, 324, 325, 326, 327, 112, 328, 329, 330, 331, 332, 333, 334, 107, 400, 401, 402, 403, 184, 185, 186, 187, 1050, 1051, 1052, 1053, 1054, 1055, 1056, 1057, 1058, 1059, 1060, 1061, 1062, 1063, 1064] (by decide +kernel) (by decide +kernel)
set_option maxRecDepth 20000 in
theorem gL_law_X4_firstToLose : GoodIn wsL_law (wsV RL 246 RX4 yX4_firstToLose wsX4_firstToLose) := goodIn_app (goodIn_of _ (by decide +kernel)) ggL_law_X4_firstToLose
set_option maxRecDepth 20000 in
theorem ggL_law_L_coinsOf : GoodIn wsL_law wsL_coinsOf := goodIn_ca (goodIn_r _ [918, 120, 919, 920, 921, 2, 922, 17, 132, 133, 134, 129, 130, 135, 136, 137, 370, 296, 297, 36, 298, 51, 1041, 1042, 1043, 1044, 1045, 1046, 1047, 1048, 1049, 1079, 1080, 1081, 1082, 1083, 1084, 1085, 1086] (by decide +kernel) (by decide +kernel)) (goodIn_sub (fun _ h => List.mem_append_left _ (List.mem_append_left _ (List.mem_append_right _ h))) (by decide +kernel))
set_option maxRecDepth 20000 in
theorem gL_law_L_coinsOf : GoodIn wsL_law (va_wsS RL 247 yL_coinsOf wsL_coinsOf) := goodIn_app (goodIn_of _ (by decide +kernel)) ggL_law_L_coinsOf
set_option maxRecDepth 20000 in
theorem ggL_law_X4_coinsOf : GoodIn wsL_law wsX4_coinsOf := goodIn_r _ [926, 174, 107, 181, 182, 5, 183, 178, 179, 180, 184, 185, 186, 187, 1050, 1051, 1052, 1053, 1054, 1055, 1056, 1057, 1058, 1059, 1060, 1061, 1062, 1063, 1064] (by decide +kernel) (by decide +kernel)
set_option maxRecDepth 20000 in
theorem gL_law_X4_coinsOf : GoodIn wsL_law (wsV RL 249 RX4 yX4_coinsOf wsX4_coinsOf) := goodIn_app (goodIn_of _ (by decide +kernel)) ggL_law_X4_coinsOf
set_option maxRecDepth 20000 in
theorem ggL_law_X3_price : GoodIn wsL_law wsX3_price := goodIn_r _ [930, 17, 1041, 1042, 1043, 1044, 1045, 1046, 1047, 1048, 1049, 1079, 1080, 1081, 1082, 1083, 1084, 1085, 1086] (by decide +kernel) (by decide +kernel)
set_option maxRecDepth 20000 in
theorem gL_law_X3_price : GoodIn wsL_law (wsV RL 250 RX3 yX3_price wsX3_price) := goodIn_app (goodIn_of _ (by decide +kernel)) ggL_law_X3_price
set_option maxRecDepth 20000 in
theorem ggL_law_X4_price : GoodIn wsL_law wsX4_price := goodIn_r _ [934, 174, 107, 1050, 1051, 1052, 1053, 1054, 1055, 1056, 1057, 1058, 1059, 1060, 1061, 1062, 1063, 1064] (by decide +kernel) (by decide +kernel)
set_option maxRecDepth 20000 in
theorem gL_law_X4_price : GoodIn wsL_law (wsV RL 253 RX4 yX4_price wsX4_price) := goodIn_app (goodIn_of _ (by decide +kernel)) ggL_law_X4_price
set_option maxRecDepth 20000 in
theorem ggL_law_X3_tax : GoodIn wsL_law wsX3_tax := goodIn_r _ [938, 17, 1041, 1042, 1043, 1044, 1045, 1046, 1047, 1048, 1049, 1079, 1080, 1081, 1082, 1083, 1084, 1085, 1086] (by decide +kernel) (by decide +kernel)
set_option maxRecDepth 20000 in
theorem gL_law_X3_tax : GoodIn wsL_law (wsV RL 254 RX3 yX3_tax wsX3_tax) := goodIn_app (goodIn_of _ (by decide +kernel)) ggL_law_X3_tax
set_option maxRecDepth 20000 in
theorem ggL_law_X4_tax : GoodIn wsL_law wsX4_tax := goodIn_r _ [942, 174, 107, 1050, 1051, 1052, 1053, 1054, 1055, 1056, 1057, 1058, 1059, 1060, 1061, 1062, 1063, 1064] (by decide +kernel) (by decide +kernel)
set_option maxRecDepth 20000 in
theorem gL_law_X4_tax : GoodIn wsL_law (wsV RL 257 RX4 yX4_tax wsX4_tax) := goodIn_app (goodIn_of _ (by decide +kernel)) ggL_law_X4_tax
set_option maxRecDepth 20000 in
theorem ggL_law_X3_sales : GoodIn wsL_law wsX3_sales := goodIn_r _ [946, 17, 1041, 1042, 1043, 1044, 1045, 1046, 1047, 1048, 1049, 1079, 1080, 1081, 1082, 1083, 1084, 1085, 1086] (by decide +kernel) (by decide +kernel)
set_option maxRecDepth 20000 in
theorem gL_law_X3_sales : GoodIn wsL_law (wsV RL 258 RX3 yX3_sales wsX3_sales) := goodIn_app (goodIn_of _ (by decide +kernel)) ggL_law_X3_sales
set_option maxRecDepth 20000 in
theorem ggL_law_X4_sales : GoodIn wsL_law wsX4_sales := goodIn_r _ [950, 174, 107, 1050, 1051, 1052, 1053, 1054, 1055, 1056, 1057, 1058, 1059, 1060, 1061, 1062, 1063, 1064] (by decide +kernel) (by decide +kernel)
set_option maxRecDepth 20000 in
theorem gL_law_X4_sales : GoodIn wsL_law (wsV RL 261 RX4 yX4_sales wsX4_sales) := goodIn_app (goodIn_of _ (by decide +kernel)) ggL_law_X4_sales
set_option maxRecDepth 20000 in
theorem ggL_law_X3_floods : GoodIn wsL_law wsX3_floods := goodIn_r _ [954, 17, 1041, 1042, 1043, 1044, 1045, 1046, 1047, 1048, 1049, 1079, 1080, 1081, 1082, 1083, 1084, 1085, 1086] (by decide +kernel) (by decide +kernel)
set_option maxRecDepth 20000 in
theorem gL_law_X3_floods : GoodIn wsL_law (wsV RL 262 RX3 yX3_floods wsX3_floods) := goodIn_app (goodIn_of _ (by decide +kernel)) ggL_law_X3_floods
set_option maxRecDepth 20000 in
theorem ggL_law_X4_floods : GoodIn wsL_law wsX4_floods := goodIn_r _ [958, 174, 107, 1050, 1051, 1052, 1053, 1054, 1055, 1056, 1057, 1058, 1059, 1060, 1061, 1062, 1063, 1064] (by decide +kernel) (by decide +kernel)
set_option maxRecDepth 20000 in
theorem gL_law_X4_floods : GoodIn wsL_law (wsV RL 265 RX4 yX4_floods wsX4_floods) := goodIn_app (goodIn_of _ (by decide +kernel)) ggL_law_X4_floods
set_option maxRecDepth 20000 in
theorem ggL_law_X3_plotsLost : GoodIn wsL_law wsX3_plotsLost := goodIn_r _ [962, 17, 1041, 1042, 1043, 1044, 1045, 1046, 1047, 1048, 1049, 1079, 1080, 1081, 1082, 1083, 1084, 1085, 1086] (by decide +kernel) (by decide +kernel)
set_option maxRecDepth 20000 in
theorem gL_law_X3_plotsLost : GoodIn wsL_law (wsV RL 266 RX3 yX3_plotsLost wsX3_plotsLost) := goodIn_app (goodIn_of _ (by decide +kernel)) ggL_law_X3_plotsLost
set_option maxRecDepth 20000 in
theorem ggL_law_X4_plotsLost : GoodIn wsL_law wsX4_plotsLost := goodIn_r _ [966, 174, 107, 1050, 1051, 1052, 1053, 1054, 1055, 1056, 1057, 1058, 1059, 1060, 1061, 1062, 1063, 1064] (by decide +kernel) (by decide +kernel)
set_option maxRecDepth 20000 in
theorem gL_law_X4_plotsLost : GoodIn wsL_law (wsV RL 269 RX4 yX4_plotsLost wsX4_plotsLost) := goodIn_app (goodIn_of _ (by decide +kernel)) ggL_law_X4_plotsLost
set_option maxRecDepth 20000 in
theorem ggL_law_L_lowCells : GoodIn wsL_law wsL_lowCells := goodIn_ca (goodIn_ca (goodIn_r _ [969, 120, 121, 970, 971, 972, 2, 973, 17, 132, 133, 134, 129, 130, 135, 136, 137, 240, 241, 242, 141, 142, 817, 818, 819, 36, 820, 49, 50, 1041, 1042, 1043, 1044, 1045, 1046, 1047, 1048, 1049, 1079, 1080, 1081, 1082, 1083, 1084, 1085, 1086] (by decide +kernel) (by decide +kernel)) (goodIn_sub (fun _ h => List.mem_append_left _ (List.mem_append_left _ (List.mem_append_right _ h))) (by decide +kernel))) (goodIn_sub (fun _ h => List.mem_append_left _ (List.mem_append_right _ h)) (by decide +kernel))
set_option maxRecDepth 20000 in
theorem gL_law_L_lowCells : GoodIn wsL_law (va_wsS RL 270 yL_lowCells wsL_lowCells) := goodIn_app (goodIn_of _ (by decide +kernel)) ggL_law_L_lowCells
set_option maxRecDepth 20000 in
theorem ggL_law_X4_lowCells : GoodIn wsL_law wsX4_lowCells := goodIn_r _ [977, 174, 181, 182, 5, 183, 178, 179, 180, 184, 185, 186, 187, 978, 979, 980, 981, 107, 1050, 1051, 1052, 1053, 1054, 1055, 1056, 1057, 1058, 1059, 1060, 1061, 1062, 1063, 1064] (by decide +kernel) (by decide +kernel)
set_option maxRecDepth 20000 in
theorem gL_law_X4_lowCells : GoodIn wsL_law (wsV RL 272 RX4 yX4_lowCells wsX4_lowCells) := goodIn_app (goodIn_of _ (by decide +kernel)) ggL_law_X4_lowCells
set_option maxRecDepth 20000 in
theorem ggL_law_L_plotsIfFlooded : GoodIn wsL_law wsL_plotsIfFlooded := goodIn_ca (goodIn_r _ [984, 121, 985, 986, 987, 2, 988, 18, 17, 240, 241, 242, 141, 142, 157, 158, 159, 36, 160, 49, 161, 162, 163, 164, 50, 51, 52, 53, 54, 55, 56, 243, 244, 245, 246, 169, 62, 63, 15, 64, 39, 44, 65, 58, 59, 60, 66, 67, 68, 69, 70, 71, 72, 73, 74, 75, 76, 77, 78, 37, 79, 80, 81, 82, 83, 84, 85, 86, 87, 88, 40, 41, 42, 43, 89, 90, 91, 92, 631, 632, 633, 634, 1041, 1042, 1043, 1044, 1045, 1046, 1047, 1048, 1049, 1065, 1066, 1067, 1068, 1069, 1070, 1071, 1079, 1080, 1081, 1082, 1083, 1084, 1085, 1086] (by decide +kernel) (by decide +kernel)) (goodIn_sub (fun _ h => List.mem_append_left _ (List.mem_append_right _ h)) (by decide +kernel))
set_option maxRecDepth 20000 in
theorem gL_law_L_plotsIfFlooded : GoodIn wsL_law (va_wsS RL 273 yL_plotsIfFlooded wsL_plotsIfFlooded) := goodIn_app (goodIn_of _ (by decide +kernel)) ggL_law_L_plotsIfFlooded
set_option maxRecDepth 20000 in
theorem ggL_law_X4_plotsIfFlooded : GoodIn wsL_law wsX4_plotsIfFlooded := goodIn_r _ [992, 174, 178, 179, 5, 180, 993, 994, 995, 996, 107, 111, 196, 197, 198, 251, 252, 253, 254, 639, 640, 641, 642, 323, 324, 325, 326, 327, 112, 113, 328, 329, 330, 331, 332, 333, 334, 184, 185, 186, 187, 1050, 1051, 1052, 1053, 1054, 1055, 1056, 1057, 1058, 1059, 1060, 1061, 1062, 1063, 1064] (by decide +kernel) (by decide +kernel)
set_option maxRecDepth 20000 in
theorem gL_law_X4_plotsIfFlooded : GoodIn wsL_law (wsV RL 275 RX4 yX4_plotsIfFlooded wsX4_plotsIfFlooded) := goodIn_app (goodIn_of _ (by decide +kernel)) ggL_law_X4_plotsIfFlooded
set_option maxRecDepth 20000 in
theorem ggL_law_L_lossesIfTaxed : GoodIn wsL_law wsL_lossesIfTaxed := goodIn_ca (goodIn_r _ [999, 120, 1000, 1001, 1002, 2, 1003, 263, 264, 265, 129, 130, 362, 363, 364, 365, 16, 17, 366, 367, 368, 15, 369, 44, 40, 370, 296, 297, 36, 298, 51, 136, 137, 1041, 1042, 1043, 1044, 1045, 1046, 1047, 1048, 1049, 1079, 1080, 1081, 1082, 1083, 1084, 1085, 1086, 1065, 1066, 1067, 1068, 1069, 1070, 1071] (by decide +kernel) (by decide +kernel)) (goodIn_sub (fun _ h => List.mem_append_left _ (List.mem_append_left _ (List.mem_append_right _ h))) (by decide +kernel))
set_option maxRecDepth 20000 in
theorem gL_law_L_lossesIfTaxed : GoodIn wsL_law (va_wsS RL 276 yL_lossesIfTaxed wsL_lossesIfTaxed) := goodIn_app (goodIn_of _ (by decide +kernel)) ggL_law_L_lossesIfTaxed
set_option maxRecDepth 20000 in
theorem ggL_law_X4_lossesIfTaxed : GoodIn wsL_law wsX4_lossesIfTaxed := goodIn_r _ [1007, 174, 316, 317, 5, 318, 178, 179, 180, 1008, 1009, 1010, 1011, 107, 111, 196, 197, 198, 392, 393, 394, 395, 112, 113, 396, 397, 398, 399, 323, 324, 325, 326, 327, 328, 329, 330, 331, 332, 333, 334, 400, 401, 402, 403, 404, 405, 406, 407, 199, 200, 201, 202, 184, 185, 186, 187, 1050, 1051, 1052, 1053, 1054, 1055, 1056, 1057, 1058, 1059, 1060, 1061, 1062, 1063, 1064] (by decide +kernel) (by decide +kernel)
set_option maxRecDepth 20000 in
theorem gL_law_X4_lossesIfTaxed : GoodIn wsL_law (wsV RL 278 RX4 yX4_lossesIfTaxed wsX4_lossesIfTaxed) := goodIn_app (goodIn_of _ (by decide +kernel)) ggL_law_X4_lossesIfTaxed
set_option maxRecDepth 20000 in
theorem ggL_law_L_nearestNeighbour : GoodIn wsL_law wsL_nearestNeighbour := goodIn_ca (goodIn_r _ [1014, 120, 1015, 1016, 1017, 2, 1018, 17, 132, 133, 134, 129, 130, 135, 136, 137, 863, 864, 865, 36, 866, 294, 90, 91, 92, 49, 73, 74, 867, 868, 869, 870, 1041, 1042, 1043, 1044, 1045, 1046, 1047, 1048, 1049, 1079, 1080, 1081, 1082, 1083, 1084, 1085, 1086] (by decide +kernel) (by decide +kernel)) (goodIn_sub (fun _ h => List.mem_append_left _ (List.mem_append_left _ (List.mem_append_right _ h))) (by decide +kernel))
set_option maxRecDepth 20000 in
theorem gL_law_L_nearestNeighbour : GoodIn wsL_law (va_wsS RL 279 yL_nearestNeighbour wsL_nearestNeighbour) := goodIn_app (goodIn_of _ (by decide +kernel)) ggL_law_L_nearestNeighbour
set_option maxRecDepth 20000 in
theorem ggL_law_X4_nearestNeighbour : GoodIn wsL_law wsX4_nearestNeighbour := goodIn_r _ [1022, 174, 181, 182, 5, 183, 178, 179, 180, 1023, 1024, 1025, 1026, 852, 853, 854, 855, 107, 184, 185, 186, 187, 1050, 1051, 1052, 1053, 1054, 1055, 1056, 1057, 1058, 1059, 1060, 1061, 1062, 1063, 1064] (by decide +kernel) (by decide +kernel)
set_option maxRecDepth 20000 in
theorem gL_law_X4_nearestNeighbour : GoodIn wsL_law (wsV RL 281 RX4 yX4_nearestNeighbour wsX4_nearestNeighbour) := goodIn_app (goodIn_of _ (by decide +kernel)) ggL_law_X4_nearestNeighbour
set_option maxRecDepth 20000 in
theorem ggL_law_X3_meanHeight : GoodIn wsL_law wsX3_meanHeight := goodIn_r _ [1030, 17, 1031, 1032, 1033, 1034, 36, 1035, 50, 1041, 1042, 1043, 1044, 1045, 1046, 1047, 1048, 1049, 1079, 1080, 1081, 1082, 1083, 1084, 1085, 1086] (by decide +kernel) (by decide +kernel)
set_option maxRecDepth 20000 in
theorem gL_law_X3_meanHeight : GoodIn wsL_law (wsV RL 282 RX3 yX3_meanHeight wsX3_meanHeight) := goodIn_app (goodIn_of _ (by decide +kernel)) ggL_law_X3_meanHeight
set_option maxRecDepth 20000 in
theorem ggL_law_X4_meanHeight : GoodIn wsL_law wsX4_meanHeight := goodIn_r _ [1039, 174, 107, 1040, 1050, 1051, 1052, 1053, 1054, 1055, 1056, 1057, 1058, 1059, 1060, 1061, 1062, 1063, 1064] (by decide +kernel) (by decide +kernel)
set_option maxRecDepth 20000 in
theorem gL_law_X4_meanHeight : GoodIn wsL_law (wsV RL 286 RX4 yX4_meanHeight wsX4_meanHeight) := goodIn_app (goodIn_of _ (by decide +kernel)) ggL_law_X4_meanHeight
theorem dL_law_0 : decode cL_law 0 = .ok (.new 8, 3) := by decide +kernel
theorem dL_law_3 : decode cL_law 3 = .ok (.dup, 1) := by decide +kernel
theorem dL_law_4 : decode cL_law 4 = .ok (.invokespecial 122, 3) := by decide +kernel
theorem dL_law_7 : decode cL_law 7 = .ok (.astore_n 1, 1) := by decide +kernel
theorem dL_law_8 : decode cL_law 8 = .ok (.new 123, 3) := by decide +kernel
theorem dL_law_11 : decode cL_law 11 = .ok (.dup, 1) := by decide +kernel
theorem dL_law_12 : decode cL_law 12 = .ok (.invokespecial 125, 3) := by decide +kernel
theorem dL_law_15 : decode cL_law 15 = .ok (.astore_n 2, 1) := by decide +kernel
theorem dL_law_16 : decode cL_law 16 = .ok (.iconst 1, 1) := by decide +kernel
theorem dL_law_17 : decode cL_law 17 = .ok (.newarray .long, 2) := by decide +kernel
theorem dL_law_19 : decode cL_law 19 = .ok (.astore_n 3, 1) := by decide +kernel
theorem dL_law_20 : decode cL_law 20 = .ok (.iconst 0, 1) := by decide +kernel
theorem dL_law_21 : decode cL_law 21 = .ok (.istore 4, 2) := by decide +kernel
theorem dL_law_23 : decode cL_law 23 = .ok (.iload 4, 2) := by decide +kernel
theorem dL_law_25 : decode cL_law 25 = .ok (.aload_n 0, 1) := by decide +kernel
theorem dL_law_26 : decode cL_law 26 = .ok (.arraylength, 1) := by decide +kernel
theorem dL_law_27 : decode cL_law 27 = .ok (.iconst 5, 1) := by decide +kernel
theorem dL_law_28 : decode cL_law 28 = .ok (.isub, 1) := by decide +kernel
theorem dL_law_29 : decode cL_law 29 = .ok (.if_icmp .gt 2493, 3) := by decide +kernel
theorem dL_law_32 : decode cL_law 32 = .ok (.aload_n 0, 1) := by decide +kernel
theorem dL_law_33 : decode cL_law 33 = .ok (.iload 4, 2) := by decide +kernel
theorem dL_law_35 : decode cL_law 35 = .ok (.iaload, 1) := by decide +kernel
theorem dL_law_36 : decode cL_law 36 = .ok (.bipush 63, 2) := by decide +kernel
theorem dL_law_38 : decode cL_law 38 = .ok (.iand, 1) := by decide +kernel
theorem dL_law_39 : decode cL_law 39 = .ok (.tableswitch 2477 0 45 #[197, 289, 381, 437, 517, 609, 622, 678, 734, 790, 803, 816, 829, 873, 917, 930, 986, 1042, 1110, 1178, 1246, 1314, 1382, 1395, 1451, 1507, 1563, 1619, 1675, 1731, 1787, 1843, 1899, 1967, 2023, 2079, 2135, 2148, 2161, 2174, 2187, 2200, 2268, 2324, 2380, 2436], 197) := by decide +kernel
theorem dL_law_236 : decode cL_law 236 = .ok (.aload_n 1, 1) := by decide +kernel
theorem dL_law_237 : decode cL_law 237 = .ok (.aload_n 0, 1) := by decide +kernel
theorem dL_law_238 : decode cL_law 238 = .ok (.iload 4, 2) := by decide +kernel
theorem dL_law_240 : decode cL_law 240 = .ok (.iconst 1, 1) := by decide +kernel
theorem dL_law_241 : decode cL_law 241 = .ok (.iadd, 1) := by decide +kernel
theorem dL_law_242 : decode cL_law 242 = .ok (.iaload, 1) := by decide +kernel
theorem dL_law_243 : decode cL_law 243 = .ok (.aload_n 0, 1) := by decide +kernel
theorem dL_law_244 : decode cL_law 244 = .ok (.iload 4, 2) := by decide +kernel
theorem dL_law_246 : decode cL_law 246 = .ok (.iconst 2, 1) := by decide +kernel
theorem dL_law_247 : decode cL_law 247 = .ok (.iadd, 1) := by decide +kernel
theorem dL_law_248 : decode cL_law 248 = .ok (.iaload, 1) := by decide +kernel
theorem dL_law_249 : decode cL_law 249 = .ok (.aload_n 0, 1) := by decide +kernel
theorem dL_law_250 : decode cL_law 250 = .ok (.iload 4, 2) := by decide +kernel
theorem dL_law_252 : decode cL_law 252 = .ok (.iconst 3, 1) := by decide +kernel
theorem dL_law_253 : decode cL_law 253 = .ok (.iadd, 1) := by decide +kernel
theorem dL_law_254 : decode cL_law 254 = .ok (.iaload, 1) := by decide +kernel
theorem dL_law_255 : decode cL_law 255 = .ok (.aload_n 0, 1) := by decide +kernel
theorem dL_law_256 : decode cL_law 256 = .ok (.iload 4, 2) := by decide +kernel
theorem dL_law_258 : decode cL_law 258 = .ok (.iconst 4, 1) := by decide +kernel
theorem dL_law_259 : decode cL_law 259 = .ok (.iadd, 1) := by decide +kernel
theorem dL_law_260 : decode cL_law 260 = .ok (.iaload, 1) := by decide +kernel
theorem dL_law_261 : decode cL_law 261 = .ok (.aload_n 3, 1) := by decide +kernel
theorem dL_law_262 : decode cL_law 262 = .ok (.invokestatic 126, 3) := by decide +kernel
theorem dL_law_265 : decode cL_law 265 = .ok (.istore 5, 2) := by decide +kernel
theorem dL_law_267 : decode cL_law 267 = .ok (.aload_n 2, 1) := by decide +kernel
theorem dL_law_268 : decode cL_law 268 = .ok (.aload_n 0, 1) := by decide +kernel
theorem dL_law_269 : decode cL_law 269 = .ok (.iload 4, 2) := by decide +kernel
theorem dL_law_271 : decode cL_law 271 = .ok (.iconst 1, 1) := by decide +kernel
theorem dL_law_272 : decode cL_law 272 = .ok (.iadd, 1) := by decide +kernel
theorem dL_law_273 : decode cL_law 273 = .ok (.iaload, 1) := by decide +kernel
theorem dL_law_274 : decode cL_law 274 = .ok (.aload_n 0, 1) := by decide +kernel
theorem dL_law_275 : decode cL_law 275 = .ok (.iload 4, 2) := by decide +kernel
theorem dL_law_277 : decode cL_law 277 = .ok (.iconst 2, 1) := by decide +kernel
theorem dL_law_278 : decode cL_law 278 = .ok (.iadd, 1) := by decide +kernel
theorem dL_law_279 : decode cL_law 279 = .ok (.iaload, 1) := by decide +kernel
theorem dL_law_280 : decode cL_law 280 = .ok (.aload_n 0, 1) := by decide +kernel
theorem dL_law_281 : decode cL_law 281 = .ok (.iload 4, 2) := by decide +kernel
theorem dL_law_283 : decode cL_law 283 = .ok (.iconst 3, 1) := by decide +kernel
theorem dL_law_284 : decode cL_law 284 = .ok (.iadd, 1) := by decide +kernel
theorem dL_law_285 : decode cL_law 285 = .ok (.iaload, 1) := by decide +kernel
theorem dL_law_286 : decode cL_law 286 = .ok (.aload_n 0, 1) := by decide +kernel
theorem dL_law_287 : decode cL_law 287 = .ok (.iload 4, 2) := by decide +kernel
theorem dL_law_289 : decode cL_law 289 = .ok (.iconst 4, 1) := by decide +kernel
theorem dL_law_290 : decode cL_law 290 = .ok (.iadd, 1) := by decide +kernel
theorem dL_law_291 : decode cL_law 291 = .ok (.iaload, 1) := by decide +kernel
theorem dL_law_292 : decode cL_law 292 = .ok (.invokevirtual 131, 3) := by decide +kernel
theorem dL_law_295 : decode cL_law 295 = .ok (.istore 6, 2) := by decide +kernel
theorem dL_law_297 : decode cL_law 297 = .ok (.aload_n 2, 1) := by decide +kernel
theorem dL_law_298 : decode cL_law 298 = .ok (.invokevirtual 132, 3) := by decide +kernel
theorem dL_law_301 : decode cL_law 301 = .ok (.iload 5, 2) := by decide +kernel
theorem dL_law_303 : decode cL_law 303 = .ok (.if_icmp .eq 5, 3) := by decide +kernel
theorem dL_law_306 : decode cL_law 306 = .ok (.iconst 0, 1) := by decide +kernel
theorem dL_law_307 : decode cL_law 307 = .ok (.ireturn, 1) := by decide +kernel
theorem dL_law_308 : decode cL_law 308 = .ok (.iload 5, 2) := by decide +kernel
theorem dL_law_310 : decode cL_law 310 = .ok (.ifCond .ne 15, 3) := by decide +kernel
theorem dL_law_313 : decode cL_law 313 = .ok (.aload_n 3, 1) := by decide +kernel
theorem dL_law_314 : decode cL_law 314 = .ok (.iconst 0, 1) := by decide +kernel
theorem dL_law_315 : decode cL_law 315 = .ok (.laload, 1) := by decide +kernel
theorem dL_law_316 : decode cL_law 316 = .ok (.iload 6, 2) := by decide +kernel
theorem dL_law_318 : decode cL_law 318 = .ok (.i2l, 1) := by decide +kernel
theorem dL_law_319 : decode cL_law 319 = .ok (.lcmp, 1) := by decide +kernel
theorem dL_law_320 : decode cL_law 320 = .ok (.ifCond .eq 5, 3) := by decide +kernel
theorem dL_law_323 : decode cL_law 323 = .ok (.iconst 0, 1) := by decide +kernel
theorem dL_law_324 : decode cL_law 324 = .ok (.ireturn, 1) := by decide +kernel
theorem dL_law_325 : decode cL_law 325 = .ok (.goto 2191, 3) := by decide +kernel
theorem dL_law_328 : decode cL_law 328 = .ok (.aload_n 1, 1) := by decide +kernel
theorem dL_law_329 : decode cL_law 329 = .ok (.aload_n 0, 1) := by decide +kernel
theorem dL_law_330 : decode cL_law 330 = .ok (.iload 4, 2) := by decide +kernel
theorem dL_law_332 : decode cL_law 332 = .ok (.iconst 1, 1) := by decide +kernel
theorem dL_law_333 : decode cL_law 333 = .ok (.iadd, 1) := by decide +kernel
theorem dL_law_334 : decode cL_law 334 = .ok (.iaload, 1) := by decide +kernel
theorem dL_law_335 : decode cL_law 335 = .ok (.aload_n 0, 1) := by decide +kernel
theorem dL_law_336 : decode cL_law 336 = .ok (.iload 4, 2) := by decide +kernel
theorem dL_law_338 : decode cL_law 338 = .ok (.iconst 2, 1) := by decide +kernel
theorem dL_law_339 : decode cL_law 339 = .ok (.iadd, 1) := by decide +kernel
theorem dL_law_340 : decode cL_law 340 = .ok (.iaload, 1) := by decide +kernel
theorem dL_law_341 : decode cL_law 341 = .ok (.aload_n 0, 1) := by decide +kernel
theorem dL_law_342 : decode cL_law 342 = .ok (.iload 4, 2) := by decide +kernel
theorem dL_law_344 : decode cL_law 344 = .ok (.iconst 3, 1) := by decide +kernel
theorem dL_law_345 : decode cL_law 345 = .ok (.iadd, 1) := by decide +kernel
theorem dL_law_346 : decode cL_law 346 = .ok (.iaload, 1) := by decide +kernel
theorem dL_law_347 : decode cL_law 347 = .ok (.aload_n 0, 1) := by decide +kernel
theorem dL_law_348 : decode cL_law 348 = .ok (.iload 4, 2) := by decide +kernel
theorem dL_law_350 : decode cL_law 350 = .ok (.iconst 4, 1) := by decide +kernel
theorem dL_law_351 : decode cL_law 351 = .ok (.iadd, 1) := by decide +kernel
theorem dL_law_352 : decode cL_law 352 = .ok (.iaload, 1) := by decide +kernel
theorem dL_law_353 : decode cL_law 353 = .ok (.aload_n 3, 1) := by decide +kernel
theorem dL_law_354 : decode cL_law 354 = .ok (.invokestatic 135, 3) := by decide +kernel
theorem dL_law_357 : decode cL_law 357 = .ok (.istore 5, 2) := by decide +kernel
theorem dL_law_359 : decode cL_law 359 = .ok (.aload_n 2, 1) := by decide +kernel
theorem dL_law_360 : decode cL_law 360 = .ok (.aload_n 0, 1) := by decide +kernel
theorem dL_law_361 : decode cL_law 361 = .ok (.iload 4, 2) := by decide +kernel
theorem dL_law_363 : decode cL_law 363 = .ok (.iconst 1, 1) := by decide +kernel
theorem dL_law_364 : decode cL_law 364 = .ok (.iadd, 1) := by decide +kernel
theorem dL_law_365 : decode cL_law 365 = .ok (.iaload, 1) := by decide +kernel
theorem dL_law_366 : decode cL_law 366 = .ok (.aload_n 0, 1) := by decide +kernel
theorem dL_law_367 : decode cL_law 367 = .ok (.iload 4, 2) := by decide +kernel
theorem dL_law_369 : decode cL_law 369 = .ok (.iconst 2, 1) := by decide +kernel
theorem dL_law_370 : decode cL_law 370 = .ok (.iadd, 1) := by decide +kernel
theorem dL_law_371 : decode cL_law 371 = .ok (.iaload, 1) := by decide +kernel
theorem dL_law_372 : decode cL_law 372 = .ok (.aload_n 0, 1) := by decide +kernel
theorem dL_law_373 : decode cL_law 373 = .ok (.iload 4, 2) := by decide +kernel
theorem dL_law_375 : decode cL_law 375 = .ok (.iconst 3, 1) := by decide +kernel
theorem dL_law_376 : decode cL_law 376 = .ok (.iadd, 1) := by decide +kernel
theorem dL_law_377 : decode cL_law 377 = .ok (.iaload, 1) := by decide +kernel
theorem dL_law_378 : decode cL_law 378 = .ok (.aload_n 0, 1) := by decide +kernel
theorem dL_law_379 : decode cL_law 379 = .ok (.iload 4, 2) := by decide +kernel
theorem dL_law_381 : decode cL_law 381 = .ok (.iconst 4, 1) := by decide +kernel
theorem dL_law_382 : decode cL_law 382 = .ok (.iadd, 1) := by decide +kernel
theorem dL_law_383 : decode cL_law 383 = .ok (.iaload, 1) := by decide +kernel
theorem dL_law_384 : decode cL_law 384 = .ok (.invokevirtual 137, 3) := by decide +kernel
theorem dL_law_387 : decode cL_law 387 = .ok (.istore 6, 2) := by decide +kernel
theorem dL_law_389 : decode cL_law 389 = .ok (.aload_n 2, 1) := by decide +kernel
theorem dL_law_390 : decode cL_law 390 = .ok (.invokevirtual 132, 3) := by decide +kernel
theorem dL_law_393 : decode cL_law 393 = .ok (.iload 5, 2) := by decide +kernel
theorem dL_law_395 : decode cL_law 395 = .ok (.if_icmp .eq 5, 3) := by decide +kernel
theorem dL_law_398 : decode cL_law 398 = .ok (.iconst 0, 1) := by decide +kernel
theorem dL_law_399 : decode cL_law 399 = .ok (.ireturn, 1) := by decide +kernel
theorem dL_law_400 : decode cL_law 400 = .ok (.iload 5, 2) := by decide +kernel
theorem dL_law_402 : decode cL_law 402 = .ok (.ifCond .ne 15, 3) := by decide +kernel
theorem dL_law_405 : decode cL_law 405 = .ok (.aload_n 3, 1) := by decide +kernel
theorem dL_law_406 : decode cL_law 406 = .ok (.iconst 0, 1) := by decide +kernel
theorem dL_law_407 : decode cL_law 407 = .ok (.laload, 1) := by decide +kernel
theorem dL_law_408 : decode cL_law 408 = .ok (.iload 6, 2) := by decide +kernel
theorem dL_law_410 : decode cL_law 410 = .ok (.i2l, 1) := by decide +kernel
theorem dL_law_411 : decode cL_law 411 = .ok (.lcmp, 1) := by decide +kernel
theorem dL_law_412 : decode cL_law 412 = .ok (.ifCond .eq 5, 3) := by decide +kernel
theorem dL_law_415 : decode cL_law 415 = .ok (.iconst 0, 1) := by decide +kernel
theorem dL_law_416 : decode cL_law 416 = .ok (.ireturn, 1) := by decide +kernel
theorem dL_law_417 : decode cL_law 417 = .ok (.goto 2099, 3) := by decide +kernel
theorem dL_law_420 : decode cL_law 420 = .ok (.aload_n 1, 1) := by decide +kernel
theorem dL_law_421 : decode cL_law 421 = .ok (.aload_n 0, 1) := by decide +kernel
theorem dL_law_422 : decode cL_law 422 = .ok (.iload 4, 2) := by decide +kernel
theorem dL_law_424 : decode cL_law 424 = .ok (.iconst 1, 1) := by decide +kernel
theorem dL_law_425 : decode cL_law 425 = .ok (.iadd, 1) := by decide +kernel
theorem dL_law_426 : decode cL_law 426 = .ok (.iaload, 1) := by decide +kernel
theorem dL_law_427 : decode cL_law 427 = .ok (.aload_n 3, 1) := by decide +kernel
theorem dL_law_428 : decode cL_law 428 = .ok (.invokestatic 138, 3) := by decide +kernel
theorem dL_law_431 : decode cL_law 431 = .ok (.istore 5, 2) := by decide +kernel
theorem dL_law_433 : decode cL_law 433 = .ok (.aload_n 2, 1) := by decide +kernel
theorem dL_law_434 : decode cL_law 434 = .ok (.aload_n 0, 1) := by decide +kernel
theorem dL_law_435 : decode cL_law 435 = .ok (.iload 4, 2) := by decide +kernel
theorem dL_law_437 : decode cL_law 437 = .ok (.iconst 1, 1) := by decide +kernel
theorem dL_law_438 : decode cL_law 438 = .ok (.iadd, 1) := by decide +kernel
theorem dL_law_439 : decode cL_law 439 = .ok (.iaload, 1) := by decide +kernel
theorem dL_law_440 : decode cL_law 440 = .ok (.invokevirtual 141, 3) := by decide +kernel
theorem dL_law_443 : decode cL_law 443 = .ok (.istore 6, 2) := by decide +kernel
theorem dL_law_445 : decode cL_law 445 = .ok (.aload_n 2, 1) := by decide +kernel
theorem dL_law_446 : decode cL_law 446 = .ok (.invokevirtual 132, 3) := by decide +kernel
theorem dL_law_449 : decode cL_law 449 = .ok (.iload 5, 2) := by decide +kernel
theorem dL_law_451 : decode cL_law 451 = .ok (.if_icmp .eq 5, 3) := by decide +kernel
theorem dL_law_454 : decode cL_law 454 = .ok (.iconst 0, 1) := by decide +kernel
theorem dL_law_455 : decode cL_law 455 = .ok (.ireturn, 1) := by decide +kernel
theorem dL_law_456 : decode cL_law 456 = .ok (.iload 5, 2) := by decide +kernel
theorem dL_law_458 : decode cL_law 458 = .ok (.ifCond .ne 15, 3) := by decide +kernel
theorem dL_law_461 : decode cL_law 461 = .ok (.aload_n 3, 1) := by decide +kernel
theorem dL_law_462 : decode cL_law 462 = .ok (.iconst 0, 1) := by decide +kernel
theorem dL_law_463 : decode cL_law 463 = .ok (.laload, 1) := by decide +kernel
theorem dL_law_464 : decode cL_law 464 = .ok (.iload 6, 2) := by decide +kernel
theorem dL_law_466 : decode cL_law 466 = .ok (.i2l, 1) := by decide +kernel
theorem dL_law_467 : decode cL_law 467 = .ok (.lcmp, 1) := by decide +kernel
theorem dL_law_468 : decode cL_law 468 = .ok (.ifCond .eq 5, 3) := by decide +kernel
theorem dL_law_471 : decode cL_law 471 = .ok (.iconst 0, 1) := by decide +kernel
theorem dL_law_472 : decode cL_law 472 = .ok (.ireturn, 1) := by decide +kernel
theorem dL_law_473 : decode cL_law 473 = .ok (.goto 2043, 3) := by decide +kernel
theorem dL_law_476 : decode cL_law 476 = .ok (.aload_n 1, 1) := by decide +kernel
theorem dL_law_477 : decode cL_law 477 = .ok (.aload_n 0, 1) := by decide +kernel
theorem dL_law_478 : decode cL_law 478 = .ok (.iload 4, 2) := by decide +kernel
theorem dL_law_480 : decode cL_law 480 = .ok (.iconst 1, 1) := by decide +kernel
theorem dL_law_481 : decode cL_law 481 = .ok (.iadd, 1) := by decide +kernel
theorem dL_law_482 : decode cL_law 482 = .ok (.iaload, 1) := by decide +kernel
theorem dL_law_483 : decode cL_law 483 = .ok (.aload_n 0, 1) := by decide +kernel
theorem dL_law_484 : decode cL_law 484 = .ok (.iload 4, 2) := by decide +kernel
theorem dL_law_486 : decode cL_law 486 = .ok (.iconst 2, 1) := by decide +kernel
theorem dL_law_487 : decode cL_law 487 = .ok (.iadd, 1) := by decide +kernel
theorem dL_law_488 : decode cL_law 488 = .ok (.iaload, 1) := by decide +kernel
theorem dL_law_489 : decode cL_law 489 = .ok (.aload_n 0, 1) := by decide +kernel
theorem dL_law_490 : decode cL_law 490 = .ok (.iload 4, 2) := by decide +kernel
theorem dL_law_492 : decode cL_law 492 = .ok (.iconst 3, 1) := by decide +kernel
theorem dL_law_493 : decode cL_law 493 = .ok (.iadd, 1) := by decide +kernel
theorem dL_law_494 : decode cL_law 494 = .ok (.iaload, 1) := by decide +kernel
theorem dL_law_495 : decode cL_law 495 = .ok (.aload_n 3, 1) := by decide +kernel
theorem dL_law_496 : decode cL_law 496 = .ok (.invokestatic 142, 3) := by decide +kernel
theorem dL_law_499 : decode cL_law 499 = .ok (.istore 5, 2) := by decide +kernel
theorem dL_law_501 : decode cL_law 501 = .ok (.aload_n 2, 1) := by decide +kernel
theorem dL_law_502 : decode cL_law 502 = .ok (.aload_n 0, 1) := by decide +kernel
theorem dL_law_503 : decode cL_law 503 = .ok (.iload 4, 2) := by decide +kernel
theorem dL_law_505 : decode cL_law 505 = .ok (.iconst 1, 1) := by decide +kernel
theorem dL_law_506 : decode cL_law 506 = .ok (.iadd, 1) := by decide +kernel
theorem dL_law_507 : decode cL_law 507 = .ok (.iaload, 1) := by decide +kernel
theorem dL_law_508 : decode cL_law 508 = .ok (.aload_n 0, 1) := by decide +kernel
theorem dL_law_509 : decode cL_law 509 = .ok (.iload 4, 2) := by decide +kernel
theorem dL_law_511 : decode cL_law 511 = .ok (.iconst 2, 1) := by decide +kernel
theorem dL_law_512 : decode cL_law 512 = .ok (.iadd, 1) := by decide +kernel
theorem dL_law_513 : decode cL_law 513 = .ok (.iaload, 1) := by decide +kernel
theorem dL_law_514 : decode cL_law 514 = .ok (.aload_n 0, 1) := by decide +kernel
theorem dL_law_515 : decode cL_law 515 = .ok (.iload 4, 2) := by decide +kernel
theorem dL_law_517 : decode cL_law 517 = .ok (.iconst 3, 1) := by decide +kernel
theorem dL_law_518 : decode cL_law 518 = .ok (.iadd, 1) := by decide +kernel
theorem dL_law_519 : decode cL_law 519 = .ok (.iaload, 1) := by decide +kernel
theorem dL_law_520 : decode cL_law 520 = .ok (.invokevirtual 145, 3) := by decide +kernel
theorem dL_law_523 : decode cL_law 523 = .ok (.istore 6, 2) := by decide +kernel
theorem dL_law_525 : decode cL_law 525 = .ok (.aload_n 2, 1) := by decide +kernel
theorem dL_law_526 : decode cL_law 526 = .ok (.invokevirtual 132, 3) := by decide +kernel
theorem dL_law_529 : decode cL_law 529 = .ok (.iload 5, 2) := by decide +kernel
theorem dL_law_531 : decode cL_law 531 = .ok (.if_icmp .eq 5, 3) := by decide +kernel
theorem dL_law_534 : decode cL_law 534 = .ok (.iconst 0, 1) := by decide +kernel
theorem dL_law_535 : decode cL_law 535 = .ok (.ireturn, 1) := by decide +kernel
theorem dL_law_536 : decode cL_law 536 = .ok (.iload 5, 2) := by decide +kernel
theorem dL_law_538 : decode cL_law 538 = .ok (.ifCond .ne 15, 3) := by decide +kernel
theorem dL_law_541 : decode cL_law 541 = .ok (.aload_n 3, 1) := by decide +kernel
theorem dL_law_542 : decode cL_law 542 = .ok (.iconst 0, 1) := by decide +kernel
theorem dL_law_543 : decode cL_law 543 = .ok (.laload, 1) := by decide +kernel
theorem dL_law_544 : decode cL_law 544 = .ok (.iload 6, 2) := by decide +kernel
theorem dL_law_546 : decode cL_law 546 = .ok (.i2l, 1) := by decide +kernel
theorem dL_law_547 : decode cL_law 547 = .ok (.lcmp, 1) := by decide +kernel
theorem dL_law_548 : decode cL_law 548 = .ok (.ifCond .eq 5, 3) := by decide +kernel
theorem dL_law_551 : decode cL_law 551 = .ok (.iconst 0, 1) := by decide +kernel
theorem dL_law_552 : decode cL_law 552 = .ok (.ireturn, 1) := by decide +kernel
theorem dL_law_553 : decode cL_law 553 = .ok (.goto 1963, 3) := by decide +kernel
theorem dL_law_556 : decode cL_law 556 = .ok (.aload_n 1, 1) := by decide +kernel
theorem dL_law_557 : decode cL_law 557 = .ok (.aload_n 0, 1) := by decide +kernel
theorem dL_law_558 : decode cL_law 558 = .ok (.iload 4, 2) := by decide +kernel
theorem dL_law_560 : decode cL_law 560 = .ok (.iconst 1, 1) := by decide +kernel
theorem dL_law_561 : decode cL_law 561 = .ok (.iadd, 1) := by decide +kernel
theorem dL_law_562 : decode cL_law 562 = .ok (.iaload, 1) := by decide +kernel
theorem dL_law_563 : decode cL_law 563 = .ok (.aload_n 0, 1) := by decide +kernel
theorem dL_law_564 : decode cL_law 564 = .ok (.iload 4, 2) := by decide +kernel
theorem dL_law_566 : decode cL_law 566 = .ok (.iconst 2, 1) := by decide +kernel
theorem dL_law_567 : decode cL_law 567 = .ok (.iadd, 1) := by decide +kernel
theorem dL_law_568 : decode cL_law 568 = .ok (.iaload, 1) := by decide +kernel
theorem dL_law_569 : decode cL_law 569 = .ok (.aload_n 0, 1) := by decide +kernel
theorem dL_law_570 : decode cL_law 570 = .ok (.iload 4, 2) := by decide +kernel
theorem dL_law_572 : decode cL_law 572 = .ok (.iconst 3, 1) := by decide +kernel
theorem dL_law_573 : decode cL_law 573 = .ok (.iadd, 1) := by decide +kernel
theorem dL_law_574 : decode cL_law 574 = .ok (.iaload, 1) := by decide +kernel
theorem dL_law_575 : decode cL_law 575 = .ok (.aload_n 0, 1) := by decide +kernel
theorem dL_law_576 : decode cL_law 576 = .ok (.iload 4, 2) := by decide +kernel
theorem dL_law_578 : decode cL_law 578 = .ok (.iconst 4, 1) := by decide +kernel
theorem dL_law_579 : decode cL_law 579 = .ok (.iadd, 1) := by decide +kernel
theorem dL_law_580 : decode cL_law 580 = .ok (.iaload, 1) := by decide +kernel
theorem dL_law_581 : decode cL_law 581 = .ok (.aload_n 3, 1) := by decide +kernel
theorem dL_law_582 : decode cL_law 582 = .ok (.invokestatic 146, 3) := by decide +kernel
theorem dL_law_585 : decode cL_law 585 = .ok (.istore 5, 2) := by decide +kernel
theorem dL_law_587 : decode cL_law 587 = .ok (.aload_n 2, 1) := by decide +kernel
theorem dL_law_588 : decode cL_law 588 = .ok (.aload_n 0, 1) := by decide +kernel
theorem dL_law_589 : decode cL_law 589 = .ok (.iload 4, 2) := by decide +kernel
theorem dL_law_591 : decode cL_law 591 = .ok (.iconst 1, 1) := by decide +kernel
theorem dL_law_592 : decode cL_law 592 = .ok (.iadd, 1) := by decide +kernel
theorem dL_law_593 : decode cL_law 593 = .ok (.iaload, 1) := by decide +kernel
theorem dL_law_594 : decode cL_law 594 = .ok (.aload_n 0, 1) := by decide +kernel
theorem dL_law_595 : decode cL_law 595 = .ok (.iload 4, 2) := by decide +kernel
theorem dL_law_597 : decode cL_law 597 = .ok (.iconst 2, 1) := by decide +kernel
theorem dL_law_598 : decode cL_law 598 = .ok (.iadd, 1) := by decide +kernel
theorem dL_law_599 : decode cL_law 599 = .ok (.iaload, 1) := by decide +kernel
theorem dL_law_600 : decode cL_law 600 = .ok (.aload_n 0, 1) := by decide +kernel
theorem dL_law_601 : decode cL_law 601 = .ok (.iload 4, 2) := by decide +kernel
theorem dL_law_603 : decode cL_law 603 = .ok (.iconst 3, 1) := by decide +kernel
theorem dL_law_604 : decode cL_law 604 = .ok (.iadd, 1) := by decide +kernel
theorem dL_law_605 : decode cL_law 605 = .ok (.iaload, 1) := by decide +kernel
theorem dL_law_606 : decode cL_law 606 = .ok (.aload_n 0, 1) := by decide +kernel
theorem dL_law_607 : decode cL_law 607 = .ok (.iload 4, 2) := by decide +kernel
theorem dL_law_609 : decode cL_law 609 = .ok (.iconst 4, 1) := by decide +kernel
theorem dL_law_610 : decode cL_law 610 = .ok (.iadd, 1) := by decide +kernel
theorem dL_law_611 : decode cL_law 611 = .ok (.iaload, 1) := by decide +kernel
theorem dL_law_612 : decode cL_law 612 = .ok (.invokevirtual 148, 3) := by decide +kernel
theorem dL_law_615 : decode cL_law 615 = .ok (.istore 6, 2) := by decide +kernel
theorem dL_law_617 : decode cL_law 617 = .ok (.aload_n 2, 1) := by decide +kernel
theorem dL_law_618 : decode cL_law 618 = .ok (.invokevirtual 132, 3) := by decide +kernel
theorem dL_law_621 : decode cL_law 621 = .ok (.iload 5, 2) := by decide +kernel
theorem dL_law_623 : decode cL_law 623 = .ok (.if_icmp .eq 5, 3) := by decide +kernel
theorem dL_law_626 : decode cL_law 626 = .ok (.iconst 0, 1) := by decide +kernel
theorem dL_law_627 : decode cL_law 627 = .ok (.ireturn, 1) := by decide +kernel
theorem dL_law_628 : decode cL_law 628 = .ok (.iload 5, 2) := by decide +kernel
theorem dL_law_630 : decode cL_law 630 = .ok (.ifCond .ne 15, 3) := by decide +kernel
theorem dL_law_633 : decode cL_law 633 = .ok (.aload_n 3, 1) := by decide +kernel
theorem dL_law_634 : decode cL_law 634 = .ok (.iconst 0, 1) := by decide +kernel
theorem dL_law_635 : decode cL_law 635 = .ok (.laload, 1) := by decide +kernel
theorem dL_law_636 : decode cL_law 636 = .ok (.iload 6, 2) := by decide +kernel
theorem dL_law_638 : decode cL_law 638 = .ok (.i2l, 1) := by decide +kernel
theorem dL_law_639 : decode cL_law 639 = .ok (.lcmp, 1) := by decide +kernel
theorem dL_law_640 : decode cL_law 640 = .ok (.ifCond .eq 5, 3) := by decide +kernel
theorem dL_law_643 : decode cL_law 643 = .ok (.iconst 0, 1) := by decide +kernel
theorem dL_law_644 : decode cL_law 644 = .ok (.ireturn, 1) := by decide +kernel
theorem dL_law_645 : decode cL_law 645 = .ok (.goto 1871, 3) := by decide +kernel
theorem dL_law_648 : decode cL_law 648 = .ok (.aload_n 1, 1) := by decide +kernel
theorem dL_law_649 : decode cL_law 649 = .ok (.invokevirtual 149, 3) := by decide +kernel
theorem dL_law_652 : decode cL_law 652 = .ok (.aload_n 2, 1) := by decide +kernel
theorem dL_law_653 : decode cL_law 653 = .ok (.invokevirtual 152, 3) := by decide +kernel
theorem dL_law_656 : decode cL_law 656 = .ok (.if_icmp .eq 1860, 3) := by decide +kernel
theorem dL_law_659 : decode cL_law 659 = .ok (.iconst 0, 1) := by decide +kernel
theorem dL_law_660 : decode cL_law 660 = .ok (.ireturn, 1) := by decide +kernel
theorem dL_law_661 : decode cL_law 661 = .ok (.aload_n 1, 1) := by decide +kernel
theorem dL_law_662 : decode cL_law 662 = .ok (.aload_n 0, 1) := by decide +kernel
theorem dL_law_663 : decode cL_law 663 = .ok (.iload 4, 2) := by decide +kernel
theorem dL_law_665 : decode cL_law 665 = .ok (.iconst 1, 1) := by decide +kernel
theorem dL_law_666 : decode cL_law 666 = .ok (.iadd, 1) := by decide +kernel
theorem dL_law_667 : decode cL_law 667 = .ok (.iaload, 1) := by decide +kernel
theorem dL_law_668 : decode cL_law 668 = .ok (.aload_n 3, 1) := by decide +kernel
theorem dL_law_669 : decode cL_law 669 = .ok (.invokestatic 153, 3) := by decide +kernel
theorem dL_law_672 : decode cL_law 672 = .ok (.istore 5, 2) := by decide +kernel
theorem dL_law_674 : decode cL_law 674 = .ok (.aload_n 2, 1) := by decide +kernel
theorem dL_law_675 : decode cL_law 675 = .ok (.aload_n 0, 1) := by decide +kernel
theorem dL_law_676 : decode cL_law 676 = .ok (.iload 4, 2) := by decide +kernel
theorem dL_law_678 : decode cL_law 678 = .ok (.iconst 1, 1) := by decide +kernel
theorem dL_law_679 : decode cL_law 679 = .ok (.iadd, 1) := by decide +kernel
theorem dL_law_680 : decode cL_law 680 = .ok (.iaload, 1) := by decide +kernel
theorem dL_law_681 : decode cL_law 681 = .ok (.invokevirtual 155, 3) := by decide +kernel
theorem dL_law_684 : decode cL_law 684 = .ok (.istore 6, 2) := by decide +kernel
theorem dL_law_686 : decode cL_law 686 = .ok (.aload_n 2, 1) := by decide +kernel
theorem dL_law_687 : decode cL_law 687 = .ok (.invokevirtual 132, 3) := by decide +kernel
theorem dL_law_690 : decode cL_law 690 = .ok (.iload 5, 2) := by decide +kernel
theorem dL_law_692 : decode cL_law 692 = .ok (.if_icmp .eq 5, 3) := by decide +kernel
theorem dL_law_695 : decode cL_law 695 = .ok (.iconst 0, 1) := by decide +kernel
theorem dL_law_696 : decode cL_law 696 = .ok (.ireturn, 1) := by decide +kernel
theorem dL_law_697 : decode cL_law 697 = .ok (.iload 5, 2) := by decide +kernel
theorem dL_law_699 : decode cL_law 699 = .ok (.ifCond .ne 15, 3) := by decide +kernel
theorem dL_law_702 : decode cL_law 702 = .ok (.aload_n 3, 1) := by decide +kernel
theorem dL_law_703 : decode cL_law 703 = .ok (.iconst 0, 1) := by decide +kernel
theorem dL_law_704 : decode cL_law 704 = .ok (.laload, 1) := by decide +kernel
theorem dL_law_705 : decode cL_law 705 = .ok (.iload 6, 2) := by decide +kernel
theorem dL_law_707 : decode cL_law 707 = .ok (.i2l, 1) := by decide +kernel
theorem dL_law_708 : decode cL_law 708 = .ok (.lcmp, 1) := by decide +kernel
theorem dL_law_709 : decode cL_law 709 = .ok (.ifCond .eq 5, 3) := by decide +kernel
theorem dL_law_712 : decode cL_law 712 = .ok (.iconst 0, 1) := by decide +kernel
theorem dL_law_713 : decode cL_law 713 = .ok (.ireturn, 1) := by decide +kernel
theorem dL_law_714 : decode cL_law 714 = .ok (.goto 1802, 3) := by decide +kernel
theorem dL_law_717 : decode cL_law 717 = .ok (.aload_n 1, 1) := by decide +kernel
theorem dL_law_718 : decode cL_law 718 = .ok (.aload_n 0, 1) := by decide +kernel
theorem dL_law_719 : decode cL_law 719 = .ok (.iload 4, 2) := by decide +kernel
theorem dL_law_721 : decode cL_law 721 = .ok (.iconst 1, 1) := by decide +kernel
theorem dL_law_722 : decode cL_law 722 = .ok (.iadd, 1) := by decide +kernel
theorem dL_law_723 : decode cL_law 723 = .ok (.iaload, 1) := by decide +kernel
theorem dL_law_724 : decode cL_law 724 = .ok (.aload_n 3, 1) := by decide +kernel
theorem dL_law_725 : decode cL_law 725 = .ok (.invokestatic 156, 3) := by decide +kernel
theorem dL_law_728 : decode cL_law 728 = .ok (.istore 5, 2) := by decide +kernel
theorem dL_law_730 : decode cL_law 730 = .ok (.aload_n 2, 1) := by decide +kernel
theorem dL_law_731 : decode cL_law 731 = .ok (.aload_n 0, 1) := by decide +kernel
theorem dL_law_732 : decode cL_law 732 = .ok (.iload 4, 2) := by decide +kernel
theorem dL_law_734 : decode cL_law 734 = .ok (.iconst 1, 1) := by decide +kernel
theorem dL_law_735 : decode cL_law 735 = .ok (.iadd, 1) := by decide +kernel
theorem dL_law_736 : decode cL_law 736 = .ok (.iaload, 1) := by decide +kernel
theorem dL_law_737 : decode cL_law 737 = .ok (.invokevirtual 158, 3) := by decide +kernel
theorem dL_law_740 : decode cL_law 740 = .ok (.istore 6, 2) := by decide +kernel
theorem dL_law_742 : decode cL_law 742 = .ok (.aload_n 2, 1) := by decide +kernel
theorem dL_law_743 : decode cL_law 743 = .ok (.invokevirtual 132, 3) := by decide +kernel
theorem dL_law_746 : decode cL_law 746 = .ok (.iload 5, 2) := by decide +kernel
theorem dL_law_748 : decode cL_law 748 = .ok (.if_icmp .eq 5, 3) := by decide +kernel
theorem dL_law_751 : decode cL_law 751 = .ok (.iconst 0, 1) := by decide +kernel
theorem dL_law_752 : decode cL_law 752 = .ok (.ireturn, 1) := by decide +kernel
theorem dL_law_753 : decode cL_law 753 = .ok (.iload 5, 2) := by decide +kernel
theorem dL_law_755 : decode cL_law 755 = .ok (.ifCond .ne 15, 3) := by decide +kernel
theorem dL_law_758 : decode cL_law 758 = .ok (.aload_n 3, 1) := by decide +kernel
theorem dL_law_759 : decode cL_law 759 = .ok (.iconst 0, 1) := by decide +kernel
theorem dL_law_760 : decode cL_law 760 = .ok (.laload, 1) := by decide +kernel
theorem dL_law_761 : decode cL_law 761 = .ok (.iload 6, 2) := by decide +kernel
theorem dL_law_763 : decode cL_law 763 = .ok (.i2l, 1) := by decide +kernel
theorem dL_law_764 : decode cL_law 764 = .ok (.lcmp, 1) := by decide +kernel
theorem dL_law_765 : decode cL_law 765 = .ok (.ifCond .eq 5, 3) := by decide +kernel
theorem dL_law_768 : decode cL_law 768 = .ok (.iconst 0, 1) := by decide +kernel
theorem dL_law_769 : decode cL_law 769 = .ok (.ireturn, 1) := by decide +kernel
theorem dL_law_770 : decode cL_law 770 = .ok (.goto 1746, 3) := by decide +kernel
theorem dL_law_773 : decode cL_law 773 = .ok (.aload_n 1, 1) := by decide +kernel
theorem dL_law_774 : decode cL_law 774 = .ok (.aload_n 0, 1) := by decide +kernel
theorem dL_law_775 : decode cL_law 775 = .ok (.iload 4, 2) := by decide +kernel
theorem dL_law_777 : decode cL_law 777 = .ok (.iconst 1, 1) := by decide +kernel
theorem dL_law_778 : decode cL_law 778 = .ok (.iadd, 1) := by decide +kernel
theorem dL_law_779 : decode cL_law 779 = .ok (.iaload, 1) := by decide +kernel
theorem dL_law_780 : decode cL_law 780 = .ok (.aload_n 3, 1) := by decide +kernel
theorem dL_law_781 : decode cL_law 781 = .ok (.invokestatic 159, 3) := by decide +kernel
theorem dL_law_784 : decode cL_law 784 = .ok (.istore 5, 2) := by decide +kernel
theorem dL_law_786 : decode cL_law 786 = .ok (.aload_n 2, 1) := by decide +kernel
theorem dL_law_787 : decode cL_law 787 = .ok (.aload_n 0, 1) := by decide +kernel
theorem dL_law_788 : decode cL_law 788 = .ok (.iload 4, 2) := by decide +kernel
theorem dL_law_790 : decode cL_law 790 = .ok (.iconst 1, 1) := by decide +kernel
theorem dL_law_791 : decode cL_law 791 = .ok (.iadd, 1) := by decide +kernel
theorem dL_law_792 : decode cL_law 792 = .ok (.iaload, 1) := by decide +kernel
theorem dL_law_793 : decode cL_law 793 = .ok (.invokevirtual 161, 3) := by decide +kernel
theorem dL_law_796 : decode cL_law 796 = .ok (.istore 6, 2) := by decide +kernel
theorem dL_law_798 : decode cL_law 798 = .ok (.aload_n 2, 1) := by decide +kernel
theorem dL_law_799 : decode cL_law 799 = .ok (.invokevirtual 132, 3) := by decide +kernel
theorem dL_law_802 : decode cL_law 802 = .ok (.iload 5, 2) := by decide +kernel
theorem dL_law_804 : decode cL_law 804 = .ok (.if_icmp .eq 5, 3) := by decide +kernel
theorem dL_law_807 : decode cL_law 807 = .ok (.iconst 0, 1) := by decide +kernel
theorem dL_law_808 : decode cL_law 808 = .ok (.ireturn, 1) := by decide +kernel
theorem dL_law_809 : decode cL_law 809 = .ok (.iload 5, 2) := by decide +kernel
theorem dL_law_811 : decode cL_law 811 = .ok (.ifCond .ne 15, 3) := by decide +kernel
theorem dL_law_814 : decode cL_law 814 = .ok (.aload_n 3, 1) := by decide +kernel
theorem dL_law_815 : decode cL_law 815 = .ok (.iconst 0, 1) := by decide +kernel
theorem dL_law_816 : decode cL_law 816 = .ok (.laload, 1) := by decide +kernel
theorem dL_law_817 : decode cL_law 817 = .ok (.iload 6, 2) := by decide +kernel
theorem dL_law_819 : decode cL_law 819 = .ok (.i2l, 1) := by decide +kernel
theorem dL_law_820 : decode cL_law 820 = .ok (.lcmp, 1) := by decide +kernel
theorem dL_law_821 : decode cL_law 821 = .ok (.ifCond .eq 5, 3) := by decide +kernel
theorem dL_law_824 : decode cL_law 824 = .ok (.iconst 0, 1) := by decide +kernel
theorem dL_law_825 : decode cL_law 825 = .ok (.ireturn, 1) := by decide +kernel
theorem dL_law_826 : decode cL_law 826 = .ok (.goto 1690, 3) := by decide +kernel
theorem dL_law_829 : decode cL_law 829 = .ok (.aload_n 1, 1) := by decide +kernel
theorem dL_law_830 : decode cL_law 830 = .ok (.invokevirtual 162, 3) := by decide +kernel
theorem dL_law_833 : decode cL_law 833 = .ok (.aload_n 2, 1) := by decide +kernel
theorem dL_law_834 : decode cL_law 834 = .ok (.invokevirtual 165, 3) := by decide +kernel
theorem dL_law_837 : decode cL_law 837 = .ok (.if_icmp .eq 1679, 3) := by decide +kernel
theorem dL_law_840 : decode cL_law 840 = .ok (.iconst 0, 1) := by decide +kernel
theorem dL_law_841 : decode cL_law 841 = .ok (.ireturn, 1) := by decide +kernel
theorem dL_law_842 : decode cL_law 842 = .ok (.aload_n 1, 1) := by decide +kernel
theorem dL_law_843 : decode cL_law 843 = .ok (.invokevirtual 166, 3) := by decide +kernel
theorem dL_law_846 : decode cL_law 846 = .ok (.aload_n 2, 1) := by decide +kernel
theorem dL_law_847 : decode cL_law 847 = .ok (.invokevirtual 169, 3) := by decide +kernel
theorem dL_law_850 : decode cL_law 850 = .ok (.if_icmp .eq 1666, 3) := by decide +kernel
theorem dL_law_853 : decode cL_law 853 = .ok (.iconst 0, 1) := by decide +kernel
theorem dL_law_854 : decode cL_law 854 = .ok (.ireturn, 1) := by decide +kernel
theorem dL_law_855 : decode cL_law 855 = .ok (.aload_n 1, 1) := by decide +kernel
theorem dL_law_856 : decode cL_law 856 = .ok (.invokevirtual 170, 3) := by decide +kernel
theorem dL_law_859 : decode cL_law 859 = .ok (.aload_n 2, 1) := by decide +kernel
theorem dL_law_860 : decode cL_law 860 = .ok (.invokevirtual 173, 3) := by decide +kernel
theorem dL_law_863 : decode cL_law 863 = .ok (.if_icmp .eq 1653, 3) := by decide +kernel
theorem dL_law_866 : decode cL_law 866 = .ok (.iconst 0, 1) := by decide +kernel
theorem dL_law_867 : decode cL_law 867 = .ok (.ireturn, 1) := by decide +kernel
theorem dL_law_868 : decode cL_law 868 = .ok (.aload_n 1, 1) := by decide +kernel
theorem dL_law_869 : decode cL_law 869 = .ok (.aload_n 3, 1) := by decide +kernel
theorem dL_law_870 : decode cL_law 870 = .ok (.invokestatic 174, 3) := by decide +kernel
theorem dL_law_873 : decode cL_law 873 = .ok (.istore 5, 2) := by decide +kernel
theorem dL_law_875 : decode cL_law 875 = .ok (.aload_n 2, 1) := by decide +kernel
theorem dL_law_876 : decode cL_law 876 = .ok (.invokevirtual 177, 3) := by decide +kernel
theorem dL_law_879 : decode cL_law 879 = .ok (.istore 6, 2) := by decide +kernel
theorem dL_law_881 : decode cL_law 881 = .ok (.aload_n 2, 1) := by decide +kernel
theorem dL_law_882 : decode cL_law 882 = .ok (.invokevirtual 132, 3) := by decide +kernel
theorem dL_law_885 : decode cL_law 885 = .ok (.iload 5, 2) := by decide +kernel
theorem dL_law_887 : decode cL_law 887 = .ok (.if_icmp .eq 5, 3) := by decide +kernel
theorem dL_law_890 : decode cL_law 890 = .ok (.iconst 0, 1) := by decide +kernel
theorem dL_law_891 : decode cL_law 891 = .ok (.ireturn, 1) := by decide +kernel
theorem dL_law_892 : decode cL_law 892 = .ok (.iload 5, 2) := by decide +kernel
theorem dL_law_894 : decode cL_law 894 = .ok (.ifCond .ne 15, 3) := by decide +kernel
theorem dL_law_897 : decode cL_law 897 = .ok (.aload_n 3, 1) := by decide +kernel
theorem dL_law_898 : decode cL_law 898 = .ok (.iconst 0, 1) := by decide +kernel
theorem dL_law_899 : decode cL_law 899 = .ok (.laload, 1) := by decide +kernel
theorem dL_law_900 : decode cL_law 900 = .ok (.iload 6, 2) := by decide +kernel
theorem dL_law_902 : decode cL_law 902 = .ok (.i2l, 1) := by decide +kernel
theorem dL_law_903 : decode cL_law 903 = .ok (.lcmp, 1) := by decide +kernel
theorem dL_law_904 : decode cL_law 904 = .ok (.ifCond .eq 5, 3) := by decide +kernel
theorem dL_law_907 : decode cL_law 907 = .ok (.iconst 0, 1) := by decide +kernel
theorem dL_law_908 : decode cL_law 908 = .ok (.ireturn, 1) := by decide +kernel
theorem dL_law_909 : decode cL_law 909 = .ok (.goto 1607, 3) := by decide +kernel
theorem dL_law_912 : decode cL_law 912 = .ok (.aload_n 1, 1) := by decide +kernel
theorem dL_law_913 : decode cL_law 913 = .ok (.aload_n 3, 1) := by decide +kernel
theorem dL_law_914 : decode cL_law 914 = .ok (.invokestatic 178, 3) := by decide +kernel
theorem dL_law_917 : decode cL_law 917 = .ok (.istore 5, 2) := by decide +kernel
theorem dL_law_919 : decode cL_law 919 = .ok (.aload_n 2, 1) := by decide +kernel
theorem dL_law_920 : decode cL_law 920 = .ok (.invokevirtual 180, 3) := by decide +kernel
theorem dL_law_923 : decode cL_law 923 = .ok (.istore 6, 2) := by decide +kernel
theorem dL_law_925 : decode cL_law 925 = .ok (.aload_n 2, 1) := by decide +kernel
theorem dL_law_926 : decode cL_law 926 = .ok (.invokevirtual 132, 3) := by decide +kernel
theorem dL_law_929 : decode cL_law 929 = .ok (.iload 5, 2) := by decide +kernel
theorem dL_law_931 : decode cL_law 931 = .ok (.if_icmp .eq 5, 3) := by decide +kernel
theorem dL_law_934 : decode cL_law 934 = .ok (.iconst 0, 1) := by decide +kernel
theorem dL_law_935 : decode cL_law 935 = .ok (.ireturn, 1) := by decide +kernel
theorem dL_law_936 : decode cL_law 936 = .ok (.iload 5, 2) := by decide +kernel
theorem dL_law_938 : decode cL_law 938 = .ok (.ifCond .ne 15, 3) := by decide +kernel
theorem dL_law_941 : decode cL_law 941 = .ok (.aload_n 3, 1) := by decide +kernel
theorem dL_law_942 : decode cL_law 942 = .ok (.iconst 0, 1) := by decide +kernel
theorem dL_law_943 : decode cL_law 943 = .ok (.laload, 1) := by decide +kernel
theorem dL_law_944 : decode cL_law 944 = .ok (.iload 6, 2) := by decide +kernel
theorem dL_law_946 : decode cL_law 946 = .ok (.i2l, 1) := by decide +kernel
theorem dL_law_947 : decode cL_law 947 = .ok (.lcmp, 1) := by decide +kernel
theorem dL_law_948 : decode cL_law 948 = .ok (.ifCond .eq 5, 3) := by decide +kernel
theorem dL_law_951 : decode cL_law 951 = .ok (.iconst 0, 1) := by decide +kernel
theorem dL_law_952 : decode cL_law 952 = .ok (.ireturn, 1) := by decide +kernel
theorem dL_law_953 : decode cL_law 953 = .ok (.goto 1563, 3) := by decide +kernel
theorem dL_law_956 : decode cL_law 956 = .ok (.aload_n 1, 1) := by decide +kernel
theorem dL_law_957 : decode cL_law 957 = .ok (.invokevirtual 181, 3) := by decide +kernel
theorem dL_law_960 : decode cL_law 960 = .ok (.aload_n 2, 1) := by decide +kernel
theorem dL_law_961 : decode cL_law 961 = .ok (.invokevirtual 184, 3) := by decide +kernel
theorem dL_law_964 : decode cL_law 964 = .ok (.if_icmp .eq 1552, 3) := by decide +kernel
theorem dL_law_967 : decode cL_law 967 = .ok (.iconst 0, 1) := by decide +kernel
theorem dL_law_968 : decode cL_law 968 = .ok (.ireturn, 1) := by decide +kernel
theorem dL_law_969 : decode cL_law 969 = .ok (.aload_n 1, 1) := by decide +kernel
theorem dL_law_970 : decode cL_law 970 = .ok (.aload_n 0, 1) := by decide +kernel
theorem dL_law_971 : decode cL_law 971 = .ok (.iload 4, 2) := by decide +kernel
theorem dL_law_973 : decode cL_law 973 = .ok (.iconst 1, 1) := by decide +kernel
theorem dL_law_974 : decode cL_law 974 = .ok (.iadd, 1) := by decide +kernel
theorem dL_law_975 : decode cL_law 975 = .ok (.iaload, 1) := by decide +kernel
theorem dL_law_976 : decode cL_law 976 = .ok (.aload_n 3, 1) := by decide +kernel
theorem dL_law_977 : decode cL_law 977 = .ok (.invokestatic 185, 3) := by decide +kernel
theorem dL_law_980 : decode cL_law 980 = .ok (.istore 5, 2) := by decide +kernel
theorem dL_law_982 : decode cL_law 982 = .ok (.aload_n 2, 1) := by decide +kernel
theorem dL_law_983 : decode cL_law 983 = .ok (.aload_n 0, 1) := by decide +kernel
theorem dL_law_984 : decode cL_law 984 = .ok (.iload 4, 2) := by decide +kernel
theorem dL_law_986 : decode cL_law 986 = .ok (.iconst 1, 1) := by decide +kernel
theorem dL_law_987 : decode cL_law 987 = .ok (.iadd, 1) := by decide +kernel
theorem dL_law_988 : decode cL_law 988 = .ok (.iaload, 1) := by decide +kernel
theorem dL_law_989 : decode cL_law 989 = .ok (.invokevirtual 187, 3) := by decide +kernel
theorem dL_law_992 : decode cL_law 992 = .ok (.istore 6, 2) := by decide +kernel
theorem dL_law_994 : decode cL_law 994 = .ok (.aload_n 2, 1) := by decide +kernel
theorem dL_law_995 : decode cL_law 995 = .ok (.invokevirtual 132, 3) := by decide +kernel
theorem dL_law_998 : decode cL_law 998 = .ok (.iload 5, 2) := by decide +kernel
theorem dL_law_1000 : decode cL_law 1000 = .ok (.if_icmp .eq 5, 3) := by decide +kernel
theorem dL_law_1003 : decode cL_law 1003 = .ok (.iconst 0, 1) := by decide +kernel
theorem dL_law_1004 : decode cL_law 1004 = .ok (.ireturn, 1) := by decide +kernel
theorem dL_law_1005 : decode cL_law 1005 = .ok (.iload 5, 2) := by decide +kernel
theorem dL_law_1007 : decode cL_law 1007 = .ok (.ifCond .ne 15, 3) := by decide +kernel
theorem dL_law_1010 : decode cL_law 1010 = .ok (.aload_n 3, 1) := by decide +kernel
theorem dL_law_1011 : decode cL_law 1011 = .ok (.iconst 0, 1) := by decide +kernel
theorem dL_law_1012 : decode cL_law 1012 = .ok (.laload, 1) := by decide +kernel
theorem dL_law_1013 : decode cL_law 1013 = .ok (.iload 6, 2) := by decide +kernel
theorem dL_law_1015 : decode cL_law 1015 = .ok (.i2l, 1) := by decide +kernel
theorem dL_law_1016 : decode cL_law 1016 = .ok (.lcmp, 1) := by decide +kernel
theorem dL_law_1017 : decode cL_law 1017 = .ok (.ifCond .eq 5, 3) := by decide +kernel
theorem dL_law_1020 : decode cL_law 1020 = .ok (.iconst 0, 1) := by decide +kernel
theorem dL_law_1021 : decode cL_law 1021 = .ok (.ireturn, 1) := by decide +kernel
theorem dL_law_1022 : decode cL_law 1022 = .ok (.goto 1494, 3) := by decide +kernel
theorem dL_law_1025 : decode cL_law 1025 = .ok (.aload_n 1, 1) := by decide +kernel
theorem dL_law_1026 : decode cL_law 1026 = .ok (.aload_n 0, 1) := by decide +kernel
theorem dL_law_1027 : decode cL_law 1027 = .ok (.iload 4, 2) := by decide +kernel
theorem dL_law_1029 : decode cL_law 1029 = .ok (.iconst 1, 1) := by decide +kernel
theorem dL_law_1030 : decode cL_law 1030 = .ok (.iadd, 1) := by decide +kernel
theorem dL_law_1031 : decode cL_law 1031 = .ok (.iaload, 1) := by decide +kernel
theorem dL_law_1032 : decode cL_law 1032 = .ok (.aload_n 3, 1) := by decide +kernel
theorem dL_law_1033 : decode cL_law 1033 = .ok (.invokestatic 188, 3) := by decide +kernel
theorem dL_law_1036 : decode cL_law 1036 = .ok (.istore 5, 2) := by decide +kernel
theorem dL_law_1038 : decode cL_law 1038 = .ok (.aload_n 2, 1) := by decide +kernel
theorem dL_law_1039 : decode cL_law 1039 = .ok (.aload_n 0, 1) := by decide +kernel
theorem dL_law_1040 : decode cL_law 1040 = .ok (.iload 4, 2) := by decide +kernel
theorem dL_law_1042 : decode cL_law 1042 = .ok (.iconst 1, 1) := by decide +kernel
theorem dL_law_1043 : decode cL_law 1043 = .ok (.iadd, 1) := by decide +kernel
