theorem goodIn_c1 {big a : List Cond} {c : Cond} (hc : GoodIn big [c]) (ha : GoodIn big a) : GoodIn big (c :: a) := fun w h => (List.mem_cons.mp h).elim (fun e => hc w (List.mem_cons.mpr (Or.inl e))) (fun h => ha w h)
theorem goodIn_t {a b c : List Cond} (h1 : GoodIn a b) (h2 : GoodIn b c) : GoodIn a c := fun w h => ⟨(h1 w (h2 w h).1).1, (h2 w h).2⟩
set_option maxRecDepth 100000 in
theorem ggL_call_L_cell : GoodIn wsL_call wsL_cell := goodIn_ca (goodIn_r _ [359, 360, 361, 362, 7, 363, 9, 11, 12, 13, 14, 15, 16, 17, 18, 364, 114, 115, 49, 116, 57, 365, 366, 367, 368, 369, 370, 371, 372, 58, 373, 374, 375, 376, 10, 150, 93, 94, 84, 95, 86, 163, 164, 165, 166, 112, 155, 156, 157, 158, 87, 377, 378, 379, 380, 381, 382, 383, 384, 385, 184, 185, 186, 60, 478, 479, 480, 481, 482, 483, 484, 485, 486, 487, 488, 489, 490, 491, 492, 493, 494, 495, 496, 497, 498, 499, 500, 501] (by decide +kernel) (by decide +kernel)) (goodIn_sub (fun _ h => List.mem_cons_of_mem _ (List.mem_append_left _ (List.mem_append_left _ (List.mem_append_right _ h)))) (by decide +kernel))
set_option maxRecDepth 100000 in
theorem ggL_call_L_owned : GoodIn wsL_call wsL_owned := goodIn_ca (goodIn_ca (goodIn_r _ [388, 389, 390, 391, 7, 392, 10, 19, 20, 21, 14, 15, 22, 23, 24, 311, 312, 313, 84, 314, 87, 109, 393, 394, 395, 396, 397, 398, 399, 400, 112, 401, 402, 403, 404, 9, 405, 406, 407, 49, 408, 57, 58, 409, 410, 411, 412, 413, 414, 415, 416, 110, 111, 417, 418, 419, 420, 421, 422, 423, 424, 100, 113, 114, 115, 116, 17, 18, 425, 426, 427, 428, 429, 430, 431, 432, 178, 433, 434, 435, 436, 437, 438, 439, 440, 441, 442, 443, 444, 445, 446, 447, 448, 449, 450, 451, 452, 147, 148, 149, 320, 321, 322, 323, 453, 454, 455, 456, 315, 180, 181, 182, 59, 457, 458, 459, 460, 136, 137, 138, 28, 29, 461, 462, 463, 464, 307, 308, 309, 310, 465, 466, 467, 468, 478, 479, 480, 481, 482, 483, 484, 485, 486, 495, 496, 497, 498, 499, 500, 501, 487, 488, 489, 490, 491, 492, 493, 494] (by decide +kernel) (by decide +kernel)) (goodIn_sub (fun _ h => List.mem_cons_of_mem _ (List.mem_append_left _ (List.mem_append_left _ (List.mem_append_right _ h)))) (by decide +kernel))) (goodIn_sub (fun _ h => List.mem_cons_of_mem _ (List.mem_append_left _ (List.mem_append_right _ h))) (by decide +kernel))
set_option maxRecDepth 100000 in
theorem ggL_call_X3_grant : GoodIn wsL_call wsX3_grant := goodIn_ca (goodIn_ca (goodIn_r _ [8, 9, 10, 11, 12, 7, 13, 14, 15, 16, 17, 18, 19, 20, 21, 22, 23, 24, 25, 26, 27, 28, 29, 30, 31, 32, 33, 34, 35, 36, 37, 38, 39, 40, 41, 42, 43, 44, 45, 46, 47, 48, 49, 50, 51, 52, 53, 54, 55, 56, 57, 58, 59, 60, 61, 62, 63, 64, 65, 66, 67, 68, 69, 70, 71, 72, 73, 74, 75, 76, 77, 78, 79, 80, 81, 82, 83, 84, 85, 86, 87, 88, 89, 90, 91, 92, 93, 94, 95, 96, 97, 98, 99, 100, 101, 102, 103, 104, 105, 106, 107, 108, 109, 110, 111, 112, 113, 114, 115, 116, 478, 479, 480, 481, 482, 483, 484, 485, 486, 487, 488, 489, 490, 491, 492, 493, 494, 495, 496, 497, 498, 499, 500, 501] (by decide +kernel) (by decide +kernel)) (goodIn_sub (fun _ h => List.mem_cons_of_mem _ (List.mem_append_left _ (List.mem_append_left _ (List.mem_append_right _ h)))) (by decide +kernel))) (goodIn_sub (fun _ h => List.mem_cons_of_mem _ (List.mem_append_left _ (List.mem_append_right _ h))) (by decide +kernel))
set_option maxRecDepth 100000 in
theorem ggL_call_X3_raise : GoodIn wsL_call wsX3_raise := goodIn_ca (goodIn_ca (goodIn_r _ [120, 28, 29, 9, 11, 12, 7, 13, 14, 15, 16, 17, 18, 25, 26, 27, 30, 31, 32, 33, 34, 35, 36, 37, 38, 39, 40, 41, 42, 43, 44, 45, 46, 47, 48, 49, 50, 51, 52, 53, 54, 55, 56, 57, 58, 59, 60, 61, 62, 63, 64, 65, 66, 67, 68, 69, 70, 71, 72, 73, 74, 75, 76, 121, 122, 123, 124, 125, 126, 127, 128, 129, 130, 131, 478, 479, 480, 481, 482, 483, 484, 485, 486, 487, 488, 489, 490, 491, 492, 493, 494] (by decide +kernel) (by decide +kernel)) (goodIn_sub (fun _ h => List.mem_cons_of_mem _ (List.mem_append_left _ (List.mem_append_right _ h))) (by decide +kernel))) (goodIn_sub (fun _ h => List.mem_cons_of_mem _ (List.mem_append_left _ (List.mem_append_left _ (List.mem_append_right _ h)))) (by decide +kernel))
set_option maxRecDepth 100000 in
theorem ggL_call_X3_flood : GoodIn wsL_call wsX3_flood := goodIn_ca (goodIn_r _ [135, 9, 10, 136, 137, 7, 138, 28, 29, 33, 34, 35, 36, 37, 38, 39, 40, 41, 42, 43, 44, 45, 46, 47, 48, 49, 50, 51, 52, 53, 54, 55, 56, 57, 58, 59, 60, 61, 62, 63, 64, 65, 66, 67, 68, 69, 70, 71, 72, 73, 74, 75, 76, 139, 140, 141, 142, 81, 82, 83, 84, 85, 86, 87, 88, 89, 90, 91, 92, 93, 94, 95, 17, 18, 96, 97, 98, 99, 100, 101, 102, 103, 104, 31, 32, 105, 106, 107, 108, 109, 110, 111, 112, 113, 114, 115, 116, 478, 479, 480, 481, 482, 483, 484, 485, 486, 487, 488, 489, 490, 491, 492, 493, 494, 495, 496, 497, 498, 499, 500, 501] (by decide +kernel) (by decide +kernel)) (goodIn_sub (fun _ h => List.mem_cons_of_mem _ (List.mem_append_left _ (List.mem_append_right _ h))) (by decide +kernel))
set_option maxRecDepth 100000 in
theorem ggL_call_X3_buyPlot : GoodIn wsL_call wsX3_buyPlot := goodIn_ca (goodIn_ca (goodIn_r _ [146, 10, 9, 147, 148, 7, 149, 14, 15, 11, 12, 13, 16, 17, 18, 150, 93, 94, 84, 95, 86, 151, 152, 153, 154, 110, 155, 156, 157, 158, 87, 159, 160, 161, 162, 111, 163, 164, 165, 166, 112, 167, 168, 169, 170, 171, 172, 173, 174, 175, 49, 176, 177, 102, 103, 104, 57, 31, 32, 178, 114, 115, 116, 179, 180, 181, 182, 59, 23, 24, 183, 184, 185, 186, 60, 33, 34, 35, 36, 37, 38, 39, 40, 41, 42, 43, 44, 45, 46, 47, 48, 50, 51, 52, 53, 54, 55, 56, 58, 61, 62, 63, 64, 65, 66, 67, 68, 69, 70, 71, 72, 73, 74, 75, 76, 187, 188, 189, 190, 191, 192, 193, 194, 195, 78, 79, 80, 81, 82, 83, 85, 88, 89, 90, 91, 92, 96, 97, 98, 99, 100, 101, 105, 106, 107, 108, 109, 113, 478, 479, 480, 481, 482, 483, 484, 485, 486, 495, 496, 497, 498, 499, 500, 501, 487, 488, 489, 490, 491, 492, 493, 494] (by decide +kernel) (by decide +kernel)) (goodIn_sub (fun _ h => List.mem_cons_of_mem _ (List.mem_append_left _ (List.mem_append_left _ (List.mem_append_right _ h)))) (by decide +kernel))) (goodIn_sub (fun _ h => List.mem_cons_of_mem _ (List.mem_append_right _ h)) (by decide +kernel))
set_option maxRecDepth 100000 in
theorem ggL_call_X3_buySquare : GoodIn wsL_call wsX3_buySquare := goodIn_ca (goodIn_ca (goodIn_ca (goodIn_r _ [199, 9, 10, 147, 148, 7, 149, 14, 15, 11, 12, 13, 16, 17, 18, 25, 26, 27, 28, 29, 30, 31, 32, 167, 168, 169, 170, 171, 172, 173, 174, 175, 49, 176, 177, 102, 103, 104, 57, 178, 114, 115, 116, 179, 180, 181, 182, 59, 23, 24, 183, 184, 185, 186, 60, 33, 34, 35, 36, 37, 38, 39, 40, 41, 42, 43, 44, 45, 46, 47, 48, 50, 51, 52, 53, 54, 55, 56, 58, 61, 62, 63, 64, 65, 66, 67, 68, 69, 70, 71, 72, 73, 74, 75, 76, 187, 188, 189, 190, 191, 192, 193, 194, 195, 78, 79, 80, 81, 82, 83, 84, 85, 86, 87, 88, 89, 90, 91, 92, 93, 94, 95, 96, 97, 98, 99, 100, 101, 105, 106, 107, 108, 109, 110, 111, 112, 113, 478, 479, 480, 481, 482, 483, 484, 485, 486, 487, 488, 489, 490, 491, 492, 493, 494, 495, 496, 497, 498, 499, 500, 501] (by decide +kernel) (by decide +kernel)) (goodIn_sub (fun _ h => List.mem_cons_of_mem _ (List.mem_append_left _ (List.mem_append_left _ (List.mem_append_right _ h)))) (by decide +kernel))) (goodIn_sub (fun _ h => List.mem_cons_of_mem _ (List.mem_append_left _ (List.mem_append_right _ h))) (by decide +kernel))) (goodIn_sub (fun _ h => List.mem_cons_of_mem _ (List.mem_append_right _ h)) (by decide +kernel))
set_option maxRecDepth 100000 in
theorem ggL_call_X3_setPrice : GoodIn wsL_call wsX3_setPrice := goodIn_ca (goodIn_r _ [203, 28, 29, 9, 33, 34, 35, 7, 36, 37, 38, 39, 40, 41, 42, 43, 44, 45, 46, 47, 48, 49, 50, 51, 52, 53, 54, 55, 56, 57, 58, 59, 60, 61, 62, 63, 64, 65, 66, 67, 68, 69, 70, 71, 72, 73, 74, 75, 76, 478, 479, 480, 481, 482, 483, 484, 485, 486, 487, 488, 489, 490, 491, 492, 493, 494] (by decide +kernel) (by decide +kernel)) (goodIn_sub (fun _ h => List.mem_cons_of_mem _ (List.mem_append_left _ (List.mem_append_right _ h))) (by decide +kernel))
set_option maxRecDepth 100000 in
theorem ggL_call_X3_setTax : GoodIn wsL_call wsX3_setTax := goodIn_ca (goodIn_r _ [207, 28, 29, 9, 33, 34, 35, 7, 36, 37, 38, 39, 40, 41, 42, 43, 44, 45, 46, 47, 48, 49, 50, 51, 52, 53, 54, 55, 56, 57, 58, 59, 60, 61, 62, 63, 64, 65, 66, 67, 68, 69, 70, 71, 72, 73, 74, 75, 76, 478, 479, 480, 481, 482, 483, 484, 485, 486, 487, 488, 489, 490, 491, 492, 493, 494] (by decide +kernel) (by decide +kernel)) (goodIn_sub (fun _ h => List.mem_cons_of_mem _ (List.mem_append_left _ (List.mem_append_right _ h))) (by decide +kernel))
set_option maxRecDepth 100000 in
theorem ggL_call_X3_append : GoodIn wsL_call wsX3_append := goodIn_ca (goodIn_ca (goodIn_r _ [211, 28, 29, 171, 172, 212, 213, 478, 479, 480, 481, 482, 483, 484, 485, 486] (by decide +kernel) (by decide +kernel)) (goodIn_sub (fun _ h => List.mem_cons_of_mem _ (List.mem_append_left _ (List.mem_append_right _ h))) (by decide +kernel))) (goodIn_sub (fun _ h => List.mem_cons_of_mem _ (List.mem_append_right _ h)) (by decide +kernel))
set_option maxRecDepth 100000 in
theorem ggL_call_X3_carryOut : GoodIn wsL_call wsX3_carryOut := goodIn_ca (goodIn_r _ [217, 28, 29, 212, 218, 219, 220, 221, 7, 222, 213, 223, 224, 225, 226, 227, 228, 229, 230, 231, 232, 233, 234, 235, 236, 237, 238, 239, 240, 241, 242, 243, 244, 245, 246, 247, 248, 249, 250, 251, 252, 253, 254, 255, 256, 257, 258, 259, 260, 261, 262, 263, 264, 265, 266, 267, 268, 269, 270, 271, 272, 273, 274, 275, 276, 277, 278, 33, 34, 35, 36, 37, 38, 39, 40, 41, 42, 43, 44, 45, 46, 47, 48, 49, 9, 50, 51, 52, 53, 54, 55, 56, 57, 58, 59, 60, 61, 62, 63, 64, 65, 66, 67, 68, 69, 70, 71, 72, 73, 74, 75, 76, 279, 280, 281, 282, 10, 283, 284, 285, 286, 287, 288, 289, 290, 30, 31, 32, 77, 78, 79, 80, 291, 292, 293, 294, 295, 296, 297, 298, 121, 122, 123, 124, 125, 126, 127, 128, 129, 130, 131, 150, 93, 94, 84, 95, 86, 17, 18, 299, 300, 301, 302, 151, 152, 153, 154, 110, 155, 156, 157, 158, 87, 159, 160, 161, 162, 111, 163, 164, 165, 166, 112, 173, 174, 175, 176, 177, 102, 103, 104, 178, 114, 115, 116, 179, 180, 181, 182, 23, 24, 183, 184, 185, 186, 187, 188, 189, 190, 191, 192, 193, 194, 195, 139, 140, 141, 142, 303, 304, 305, 306, 307, 308, 309, 310, 311, 312, 313, 314, 109, 315, 316, 317, 318, 319, 320, 321, 322, 323, 324, 325, 326, 327, 328, 81, 82, 83, 85, 88, 89, 90, 91, 92, 96, 97, 98, 99, 100, 101, 105, 106, 107, 108, 113, 478, 479, 480, 481, 482, 483, 484, 485, 486, 502, 503, 504, 505, 506, 507, 508, 487, 488, 489, 490, 491, 492, 493, 494, 495, 496, 497, 498, 499, 500, 501] (by decide +kernel) (by decide +kernel)) (goodIn_sub (fun _ h => List.mem_cons_of_mem _ (List.mem_append_left _ (List.mem_append_right _ h))) (by decide +kernel))
set_option maxRecDepth 100000 in
theorem ggL_call_X3_undo : GoodIn wsL_call wsX3_undo := goodIn_ca (goodIn_r _ [332, 171, 172, 38, 37, 333, 334, 7, 335, 336, 337, 338, 339, 9, 10, 69, 70, 71, 49, 72, 57, 73, 74, 75, 76, 58, 59, 60, 61, 62, 63, 64, 81, 82, 83, 84, 85, 86, 87, 88, 66, 67, 68, 89, 90, 91, 92, 93, 94, 95, 17, 18, 96, 97, 98, 99, 100, 101, 102, 103, 104, 31, 32, 105, 106, 107, 108, 109, 110, 111, 112, 113, 114, 115, 116, 478, 479, 480, 481, 482, 483, 484, 485, 486, 487, 488, 489, 490, 491, 492, 493, 494, 495, 496, 497, 498, 499, 500, 501] (by decide +kernel) (by decide +kernel)) (goodIn_sub (fun _ h => List.mem_cons_of_mem _ (List.mem_append_right _ h)) (by decide +kernel))
set_option maxRecDepth 100000 in
theorem ggL_call_X3_keep : GoodIn wsL_call wsX3_keep := goodIn_ca (goodIn_r _ [343, 344, 10, 345, 346, 7, 347, 14, 15, 43, 44, 45, 46, 47, 48, 49, 9, 50, 51, 52, 53, 54, 55, 56, 57, 58, 59, 60, 61, 62, 63, 64, 65, 66, 67, 68, 69, 70, 71, 72, 73, 74, 75, 76, 348, 349, 350, 84, 351, 87, 478, 479, 480, 481, 482, 483, 484, 485, 486, 487, 488, 489, 490, 491, 492, 493, 494, 495, 496, 497, 498, 499, 500, 501] (by decide +kernel) (by decide +kernel)) (goodIn_sub (fun _ h => List.mem_cons_of_mem _ (List.mem_append_left _ (List.mem_append_left _ (List.mem_append_right _ h)))) (by decide +kernel))
set_option maxRecDepth 100000 in
theorem ggL_call_X3_goBack : GoodIn wsL_call wsX3_goBack := goodIn_ca (goodIn_ca (goodIn_r _ [355, 171, 172, 344, 10, 345, 346, 7, 347, 14, 15, 333, 334, 335, 33, 34, 35, 36, 37, 38, 39, 40, 41, 42, 43, 44, 45, 46, 47, 48, 49, 9, 50, 51, 52, 53, 54, 55, 56, 57, 58, 59, 60, 61, 62, 63, 64, 65, 66, 67, 68, 69, 70, 71, 72, 73, 74, 75, 76, 336, 337, 338, 339, 81, 82, 83, 84, 85, 86, 87, 88, 89, 90, 91, 92, 93, 94, 95, 17, 18, 96, 97, 98, 99, 100, 101, 102, 103, 104, 31, 32, 105, 106, 107, 108, 109, 110, 111, 112, 113, 114, 115, 116, 348, 349, 350, 351, 478, 479, 480, 481, 482, 483, 484, 485, 486, 487, 488, 489, 490, 491, 492, 493, 494, 495, 496, 497, 498, 499, 500, 501] (by decide +kernel) (by decide +kernel)) (goodIn_sub (fun _ h => List.mem_cons_of_mem _ (List.mem_append_right _ h)) (by decide +kernel))) (goodIn_sub (fun _ h => List.mem_cons_of_mem _ (List.mem_append_left _ (List.mem_append_left _ (List.mem_append_right _ h)))) (by decide +kernel))
set_option maxRecDepth 100000 in
theorem ggL_call_X3_plotsIfFlooded : GoodIn wsL_call wsX3_plotsIfFlooded := goodIn_ca (goodIn_r _ [472, 473, 9, 136, 137, 7, 138, 28, 29, 69, 70, 71, 49, 72, 57, 73, 74, 75, 76, 58, 59, 60, 61, 62, 63, 64, 139, 140, 141, 142, 81, 82, 83, 84, 85, 86, 87, 88, 66, 67, 68, 89, 90, 91, 92, 93, 94, 95, 17, 18, 96, 97, 98, 99, 100, 101, 102, 103, 104, 31, 32, 105, 106, 107, 108, 109, 110, 111, 112, 113, 114, 115, 116, 348, 349, 350, 351, 478, 479, 480, 481, 482, 483, 484, 485, 486, 495, 496, 497, 498, 499, 500, 501, 487, 488, 489, 490, 491, 492, 493, 494] (by decide +kernel) (by decide +kernel)) (goodIn_sub (fun _ h => List.mem_cons_of_mem _ (List.mem_append_left _ (List.mem_append_right _ h))) (by decide +kernel))
set_option maxRecDepth 100000 in
theorem ggL_call_X3_collectTaxes : GoodIn wsL_call wsX3_collectTaxes := goodIn_r _ [477, 10, 33, 34, 35, 7, 36, 37, 38, 39, 40, 41, 42, 43, 44, 45, 46, 47, 48, 49, 9, 50, 51, 52, 53, 54, 55, 56, 57, 58, 59, 60, 61, 62, 63, 64, 65, 66, 67, 68, 69, 70, 71, 72, 73, 74, 75, 76, 303, 304, 305, 306, 307, 308, 309, 310, 311, 312, 313, 84, 314, 87, 109, 315, 180, 181, 182, 23, 24, 316, 317, 318, 319, 320, 321, 322, 323, 112, 151, 152, 153, 154, 110, 155, 156, 157, 158, 159, 160, 161, 162, 111, 163, 164, 165, 166, 77, 78, 79, 80, 31, 32, 324, 325, 326, 327, 328, 192, 193, 194, 81, 82, 83, 85, 86, 88, 89, 90, 91, 92, 93, 94, 95, 17, 18, 96, 97, 98, 99, 100, 101, 102, 103, 104, 105, 106, 107, 108, 113, 114, 115, 116, 478, 479, 480, 481, 482, 483, 484, 485, 486, 487, 488, 489, 490, 491, 492, 493, 494, 495, 496, 497, 498, 499, 500, 501] (by decide +kernel) (by decide +kernel)
set_option maxRecDepth 100000 in
theorem gL_call_X3_grant : GoodIn wsL_call (wsV RL 9 RX3 yX3_grant wsX3_grant) := goodIn_app (goodIn_of _ (by decide +kernel)) ggL_call_X3_grant
set_option maxRecDepth 100000 in
theorem gL_call_X3_raise : GoodIn wsL_call (wsV RL 15 RX3 yX3_raise wsX3_raise) := goodIn_app (goodIn_of _ (by decide +kernel)) ggL_call_X3_raise
set_option maxRecDepth 100000 in
theorem gL_call_X3_flood : GoodIn wsL_call (wsV RL 18 RX3 yX3_flood wsX3_flood) := goodIn_app (goodIn_of _ (by decide +kernel)) ggL_call_X3_flood
set_option maxRecDepth 100000 in
theorem gL_call_X3_buyPlot : GoodIn wsL_call (wsV RL 22 RX3 yX3_buyPlot wsX3_buyPlot) := goodIn_app (goodIn_of _ (by decide +kernel)) ggL_call_X3_buyPlot
set_option maxRecDepth 100000 in
theorem gL_call_X3_buySquare : GoodIn wsL_call (wsV RL 26 RX3 yX3_buySquare wsX3_buySquare) := goodIn_app (goodIn_of _ (by decide +kernel)) ggL_call_X3_buySquare
set_option maxRecDepth 100000 in
theorem gL_call_X3_setPrice : GoodIn wsL_call (wsV RL 29 RX3 yX3_setPrice wsX3_setPrice) := goodIn_app (goodIn_of _ (by decide +kernel)) ggL_call_X3_setPrice
set_option maxRecDepth 100000 in
theorem gL_call_X3_setTax : GoodIn wsL_call (wsV RL 32 RX3 yX3_setTax wsX3_setTax) := goodIn_app (goodIn_of _ (by decide +kernel)) ggL_call_X3_setTax
set_option maxRecDepth 100000 in
theorem gL_call_X3_append : GoodIn wsL_call (wsV RL 35 RX3 yX3_append wsX3_append) := goodIn_app (goodIn_of _ (by decide +kernel)) ggL_call_X3_append
set_option maxRecDepth 100000 in
theorem gL_call_X3_carryOut : GoodIn wsL_call (wsV RL 38 RX3 yX3_carryOut wsX3_carryOut) := goodIn_app (goodIn_of _ (by decide +kernel)) ggL_call_X3_carryOut
set_option maxRecDepth 100000 in
theorem gL_call_X3_undo : GoodIn wsL_call (wsV RL 42 RX3 yX3_undo wsX3_undo) := goodIn_app (goodIn_of _ (by decide +kernel)) ggL_call_X3_undo
set_option maxRecDepth 100000 in
theorem gL_call_X3_keep : GoodIn wsL_call (wsV RL 45 RX3 yX3_keep wsX3_keep) := goodIn_app (goodIn_of _ (by decide +kernel)) ggL_call_X3_keep
set_option maxRecDepth 100000 in
theorem gL_call_X3_goBack : GoodIn wsL_call (wsV RL 48 RX3 yX3_goBack wsX3_goBack) := goodIn_app (goodIn_of _ (by decide +kernel)) ggL_call_X3_goBack
set_option maxRecDepth 100000 in
theorem gL_call_L_cell : GoodIn wsL_call (va_wsS RL 51 yL_cell wsL_cell) := goodIn_app (goodIn_of _ (by decide +kernel)) ggL_call_L_cell
set_option maxRecDepth 100000 in
theorem gL_call_L_owned : GoodIn wsL_call (va_wsS RL 57 yL_owned wsL_owned) := goodIn_app (goodIn_of _ (by decide +kernel)) ggL_call_L_owned
set_option maxRecDepth 100000 in
theorem gL_call_X3_plotsIfFlooded : GoodIn wsL_call (wsV RL 60 RX3 yX3_plotsIfFlooded wsX3_plotsIfFlooded) := goodIn_app (goodIn_of _ (by decide +kernel)) ggL_call_X3_plotsIfFlooded
set_option maxRecDepth 100000 in
theorem gL_call_X3_collectTaxes : GoodIn wsL_call (wsV RL 63 RX3 yX3_collectTaxes wsX3_collectTaxes) := goodIn_app (goodIn_of _ (by decide +kernel)) ggL_call_X3_collectTaxes
set_option maxRecDepth 100000 in
theorem ggL_cell_X3_ownerAt : GoodIn wsL_cell wsX3_ownerAt := goodIn_ca (goodIn_r _ [5, 6, 7, 8, 4, 9, 10, 11, 12, 13, 14, 15, 16, 17, 18, 19, 20, 64, 65, 66, 67, 68, 69, 70, 71, 72, 73, 74, 75, 76, 77, 78, 79, 80] (by decide +kernel) (by decide +kernel)) (goodIn_sub (fun _ h => List.mem_cons_of_mem _ (List.mem_append_right _ h)) (by decide +kernel))
set_option maxRecDepth 100000 in
theorem ggL_cell_X3_heightAt : GoodIn wsL_cell wsX3_heightAt := goodIn_ca (goodIn_r _ [24, 6, 7, 8, 4, 9, 10, 11, 12, 13, 14, 25, 26, 27, 18, 28, 29, 64, 65, 66, 67, 68, 69, 70, 71, 72, 73, 74, 75, 76, 77, 78, 79, 80] (by decide +kernel) (by decide +kernel)) (goodIn_sub (fun _ h => List.mem_cons_of_mem _ (List.mem_append_right _ h)) (by decide +kernel))
set_option maxRecDepth 100000 in
theorem ggL_cell_X3_plotSizeAt : GoodIn wsL_cell wsX3_plotSizeAt := goodIn_ca (goodIn_r _ [33, 34, 7, 8, 4, 9, 10, 11, 12, 13, 14, 35, 36, 37, 38, 39, 40, 41, 42, 43, 44, 45, 46, 47, 48, 49, 50, 64, 65, 66, 67, 68, 69, 70, 71, 72, 81, 82, 83, 84, 85, 86, 87] (by decide +kernel) (by decide +kernel)) (goodIn_sub (fun _ h => List.mem_cons_of_mem _ (List.mem_append_right _ h)) (by decide +kernel))
set_option maxRecDepth 100000 in
theorem ggL_cell_X3_plotRankAt : GoodIn wsL_cell wsX3_plotRankAt := goodIn_ca (goodIn_r _ [54, 34, 7, 8, 4, 9, 10, 11, 12, 13, 14, 35, 36, 37, 38, 39, 40, 64, 65, 66, 67, 68, 69, 70, 71, 72, 81, 82, 83, 84, 85, 86, 87] (by decide +kernel) (by decide +kernel)) (goodIn_sub (fun _ h => List.mem_cons_of_mem _ (List.mem_append_right _ h)) (by decide +kernel))
set_option maxRecDepth 100000 in
theorem ggL_cell_X3_plotPriceAt : GoodIn wsL_cell wsX3_plotPriceAt := goodIn_ca (goodIn_r _ [58, 6, 34, 7, 8, 4, 9, 10, 11, 12, 13, 14, 35, 36, 37, 38, 39, 40, 41, 42, 43, 44, 45, 46, 47, 48, 49, 50, 59, 60, 61, 18, 62, 63, 64, 65, 66, 67, 68, 69, 70, 71, 72, 81, 82, 83, 84, 85, 86, 87, 73, 74, 75, 76, 77, 78, 79, 80] (by decide +kernel) (by decide +kernel)) (goodIn_sub (fun _ h => List.mem_cons_of_mem _ (List.mem_append_right _ h)) (by decide +kernel))
set_option maxRecDepth 100000 in
theorem gL_cell_X3_ownerAt : GoodIn wsL_cell (wsV RL 72 RX3 yX3_ownerAt wsX3_ownerAt) := goodIn_app (goodIn_of _ (by decide +kernel)) ggL_cell_X3_ownerAt
set_option maxRecDepth 100000 in
theorem gL_cell_X3_heightAt : GoodIn wsL_cell (wsV RL 76 RX3 yX3_heightAt wsX3_heightAt) := goodIn_app (goodIn_of _ (by decide +kernel)) ggL_cell_X3_heightAt
set_option maxRecDepth 100000 in
theorem gL_cell_X3_plotSizeAt : GoodIn wsL_cell (wsV RL 79 RX3 yX3_plotSizeAt wsX3_plotSizeAt) := goodIn_app (goodIn_of _ (by decide +kernel)) ggL_cell_X3_plotSizeAt
set_option maxRecDepth 100000 in
theorem gL_cell_X3_plotRankAt : GoodIn wsL_cell (wsV RL 82 RX3 yX3_plotRankAt wsX3_plotRankAt) := goodIn_app (goodIn_of _ (by decide +kernel)) ggL_cell_X3_plotRankAt
set_option maxRecDepth 100000 in
theorem gL_cell_X3_plotPriceAt : GoodIn wsL_cell (wsV RL 85 RX3 yX3_plotPriceAt wsX3_plotPriceAt) := goodIn_app (goodIn_of _ (by decide +kernel)) ggL_cell_X3_plotPriceAt
set_option maxRecDepth 100000 in
theorem ggL_owned_X3_plotsOf : GoodIn wsL_owned wsX3_plotsOf := goodIn_ca (goodIn_r _ [5, 6, 7, 8, 4, 9, 10, 11, 12, 13, 14, 15, 16, 17, 18, 19, 20, 21, 134, 135, 136, 137, 138, 139, 140, 141, 142, 143, 144, 145, 146, 147, 148, 149] (by decide +kernel) (by decide +kernel)) (goodIn_sub (fun _ h => List.mem_cons_of_mem _ (List.mem_append_left _ (List.mem_append_right _ h))) (by decide +kernel))
set_option maxRecDepth 100000 in
theorem ggL_owned_X3_areaByPlots : GoodIn wsL_owned wsX3_areaByPlots := goodIn_ca (goodIn_r _ [25, 6, 7, 8, 4, 9, 10, 11, 12, 13, 14, 26, 27, 28, 18, 29, 20, 21, 30, 134, 135, 136, 137, 138, 139, 140, 141, 142, 143, 144, 145, 146, 147, 148, 149] (by decide +kernel) (by decide +kernel)) (goodIn_sub (fun _ h => List.mem_cons_of_mem _ (List.mem_append_left _ (List.mem_append_right _ h))) (by decide +kernel))
set_option maxRecDepth 100000 in
theorem ggL_owned_X3_areaByCells : GoodIn wsL_owned wsX3_areaByCells := goodIn_ca (goodIn_r _ [34, 35, 7, 8, 4, 9, 10, 11, 12, 13, 14, 36, 37, 38, 39, 40, 41, 42, 134, 135, 136, 137, 138, 139, 140, 141, 142, 150, 151, 152, 153, 154, 155, 156, 157] (by decide +kernel) (by decide +kernel)) (goodIn_sub (fun _ h => List.mem_cons_of_mem _ (List.mem_append_left _ (List.mem_append_right _ h))) (by decide +kernel))
set_option maxRecDepth 100000 in
theorem ggL_owned_X3_fenceByPlots : GoodIn wsL_owned wsX3_fenceByPlots := goodIn_ca (goodIn_r _ [46, 6, 7, 8, 4, 9, 10, 11, 12, 13, 14, 47, 48, 49, 18, 50, 20, 21, 51, 52, 30, 53, 54, 55, 56, 57, 58, 59, 60, 61, 62, 63, 64, 39, 65, 41, 66, 67, 134, 135, 136, 137, 138, 139, 140, 141, 142, 143, 144, 145, 146, 147, 148, 149, 150, 151, 152, 153, 154, 155, 156, 157] (by decide +kernel) (by decide +kernel)) (goodIn_sub (fun _ h => List.mem_cons_of_mem _ (List.mem_append_left _ (List.mem_append_right _ h))) (by decide +kernel))
set_option maxRecDepth 100000 in
theorem ggL_owned_X3_fenceByCells : GoodIn wsL_owned wsX3_fenceByCells := goodIn_ca (goodIn_r _ [71, 35, 7, 8, 4, 9, 10, 11, 12, 13, 14, 72, 73, 74, 39, 75, 76, 63, 64, 65, 41, 66, 67, 77, 78, 79, 80, 134, 135, 136, 137, 138, 139, 140, 141, 142, 150, 151, 152, 153, 154, 155, 156, 157] (by decide +kernel) (by decide +kernel)) (goodIn_sub (fun _ h => List.mem_cons_of_mem _ (List.mem_append_left _ (List.mem_append_right _ h))) (by decide +kernel))
set_option maxRecDepth 100000 in
theorem ggL_owned_X3_fenceBetween : GoodIn wsL_owned wsX3_fenceBetween := goodIn_ca (goodIn_r _ [84, 35, 7, 8, 4, 9, 10, 11, 12, 13, 14, 72, 73, 74, 39, 75, 76, 63, 64, 65, 41, 66, 67, 77, 78, 79, 80, 134, 135, 136, 137, 138, 139, 140, 141, 142, 150, 151, 152, 153, 154, 155, 156, 157] (by decide +kernel) (by decide +kernel)) (goodIn_sub (fun _ h => List.mem_cons_of_mem _ (List.mem_append_left _ (List.mem_append_right _ h))) (by decide +kernel))
set_option maxRecDepth 100000 in
theorem ggL_owned_X3_largestPlotOf : GoodIn wsL_owned wsX3_largestPlotOf := goodIn_ca (goodIn_r _ [88, 6, 7, 8, 4, 9, 10, 11, 12, 13, 14, 89, 90, 91, 18, 92, 20, 21, 30, 134, 135, 136, 137, 138, 139, 140, 141, 142, 143, 144, 145, 146, 147, 148, 149] (by decide +kernel) (by decide +kernel)) (goodIn_sub (fun _ h => List.mem_cons_of_mem _ (List.mem_append_left _ (List.mem_append_right _ h))) (by decide +kernel))
set_option maxRecDepth 100000 in
theorem ggL_owned_X3_firstToLose : GoodIn wsL_owned wsX3_firstToLose := goodIn_ca (goodIn_r _ [96, 6, 97, 98, 4, 99, 10, 11, 100, 101, 102, 18, 103, 20, 21, 30, 134, 135, 136, 137, 138, 139, 140, 141, 142, 143, 144, 145, 146, 147, 148, 149] (by decide +kernel) (by decide +kernel)) (goodIn_sub (fun _ h => List.mem_cons_of_mem _ (List.mem_append_left _ (List.mem_append_right _ h))) (by decide +kernel))
set_option maxRecDepth 100000 in
theorem ggL_owned_X3_coinsOf : GoodIn wsL_owned wsX3_coinsOf := goodIn_ca (goodIn_r _ [107, 35, 7, 8, 4, 9, 10, 11, 12, 13, 14, 108, 109, 110, 39, 111, 112, 134, 135, 136, 137, 138, 139, 140, 141, 142, 150, 151, 152, 153, 154, 155, 156, 157] (by decide +kernel) (by decide +kernel)) (goodIn_sub (fun _ h => List.mem_cons_of_mem _ (List.mem_append_left _ (List.mem_append_right _ h))) (by decide +kernel))
set_option maxRecDepth 100000 in
theorem ggL_owned_X3_lowCells : GoodIn wsL_owned wsX3_lowCells := goodIn_ca (goodIn_ca (goodIn_r _ [116, 35, 7, 8, 4, 9, 10, 11, 12, 13, 14, 117, 118, 119, 120, 121, 36, 37, 38, 39, 40, 41, 42, 134, 135, 136, 137, 138, 139, 140, 141, 142, 150, 151, 152, 153, 154, 155, 156, 157] (by decide +kernel) (by decide +kernel)) (goodIn_sub (fun _ h => List.mem_cons_of_mem _ (List.mem_append_left _ (List.mem_append_right _ h))) (by decide +kernel))) (goodIn_sub (fun _ h => List.mem_cons_of_mem _ (List.mem_append_right _ h)) (by decide +kernel))
set_option maxRecDepth 100000 in
theorem ggL_owned_X3_lossesIfTaxed : GoodIn wsL_owned wsX3_lossesIfTaxed := goodIn_ca (goodIn_r _ [125, 97, 98, 4, 99, 10, 11, 126, 127, 128, 129, 6, 35, 15, 16, 17, 18, 19, 20, 21, 108, 109, 110, 39, 111, 112, 13, 14, 134, 135, 136, 137, 138, 139, 140, 141, 142, 150, 151, 152, 153, 154, 155, 156, 157, 143, 144, 145, 146, 147, 148, 149] (by decide +kernel) (by decide +kernel)) (goodIn_sub (fun _ h => List.mem_cons_of_mem _ (List.mem_append_left _ (List.mem_append_right _ h))) (by decide +kernel))
set_option maxRecDepth 100000 in
theorem ggL_owned_X3_nearestNeighbour : GoodIn wsL_owned wsX3_nearestNeighbour := goodIn_ca (goodIn_r _ [133, 35, 7, 8, 4, 9, 10, 11, 12, 13, 14, 72, 73, 74, 39, 75, 76, 63, 64, 65, 41, 66, 67, 77, 78, 79, 80, 134, 135, 136, 137, 138, 139, 140, 141, 142, 150, 151, 152, 153, 154, 155, 156, 157] (by decide +kernel) (by decide +kernel)) (goodIn_sub (fun _ h => List.mem_cons_of_mem _ (List.mem_append_left _ (List.mem_append_right _ h))) (by decide +kernel))
set_option maxRecDepth 100000 in
theorem gL_owned_X3_plotsOf : GoodIn wsL_owned (wsV RL 88 RX3 yX3_plotsOf wsX3_plotsOf) := goodIn_app (goodIn_of _ (by decide +kernel)) ggL_owned_X3_plotsOf
set_option maxRecDepth 100000 in
theorem gL_owned_X3_areaByPlots : GoodIn wsL_owned (wsV RL 91 RX3 yX3_areaByPlots wsX3_areaByPlots) := goodIn_app (goodIn_of _ (by decide +kernel)) ggL_owned_X3_areaByPlots
set_option maxRecDepth 100000 in
theorem gL_owned_X3_areaByCells : GoodIn wsL_owned (wsV RL 94 RX3 yX3_areaByCells wsX3_areaByCells) := goodIn_app (goodIn_of _ (by decide +kernel)) ggL_owned_X3_areaByCells
set_option maxRecDepth 100000 in
theorem gL_owned_X3_fenceByPlots : GoodIn wsL_owned (wsV RL 97 RX3 yX3_fenceByPlots wsX3_fenceByPlots) := goodIn_app (goodIn_of _ (by decide +kernel)) ggL_owned_X3_fenceByPlots
set_option maxRecDepth 100000 in
theorem gL_owned_X3_fenceByCells : GoodIn wsL_owned (wsV RL 100 RX3 yX3_fenceByCells wsX3_fenceByCells) := goodIn_app (goodIn_of _ (by decide +kernel)) ggL_owned_X3_fenceByCells
set_option maxRecDepth 100000 in
theorem gL_owned_X3_fenceBetween : GoodIn wsL_owned (wsV RL 103 RX3 yX3_fenceBetween wsX3_fenceBetween) := goodIn_app (goodIn_of _ (by decide +kernel)) ggL_owned_X3_fenceBetween
set_option maxRecDepth 100000 in
theorem gL_owned_X3_largestPlotOf : GoodIn wsL_owned (wsV RL 106 RX3 yX3_largestPlotOf wsX3_largestPlotOf) := goodIn_app (goodIn_of _ (by decide +kernel)) ggL_owned_X3_largestPlotOf
set_option maxRecDepth 100000 in
theorem gL_owned_X3_firstToLose : GoodIn wsL_owned (wsV RL 109 RX3 yX3_firstToLose wsX3_firstToLose) := goodIn_app (goodIn_of _ (by decide +kernel)) ggL_owned_X3_firstToLose
set_option maxRecDepth 100000 in
theorem gL_owned_X3_coinsOf : GoodIn wsL_owned (wsV RL 112 RX3 yX3_coinsOf wsX3_coinsOf) := goodIn_app (goodIn_of _ (by decide +kernel)) ggL_owned_X3_coinsOf
set_option maxRecDepth 100000 in
theorem gL_owned_X3_lowCells : GoodIn wsL_owned (wsV RL 115 RX3 yX3_lowCells wsX3_lowCells) := goodIn_app (goodIn_of _ (by decide +kernel)) ggL_owned_X3_lowCells
set_option maxRecDepth 100000 in
theorem gL_owned_X3_lossesIfTaxed : GoodIn wsL_owned (wsV RL 118 RX3 yX3_lossesIfTaxed wsX3_lossesIfTaxed) := goodIn_app (goodIn_of _ (by decide +kernel)) ggL_owned_X3_lossesIfTaxed
set_option maxRecDepth 100000 in
theorem gL_owned_X3_nearestNeighbour : GoodIn wsL_owned (wsV RL 121 RX3 yX3_nearestNeighbour wsX3_nearestNeighbour) := goodIn_app (goodIn_of _ (by decide +kernel)) ggL_owned_X3_nearestNeighbour
set_option maxRecDepth 100000 in
theorem ggL_seen_X3_plots : GoodIn wsL_seen wsX3_plots := goodIn_r _ [7, 8, 9, 10, 11, 12, 13, 14, 87, 88, 89, 90, 91, 92, 93, 94, 95, 96, 97, 98, 99, 100, 101, 102] (by decide +kernel) (by decide +kernel)
set_option maxRecDepth 100000 in
theorem ggL_seen_X3_price : GoodIn wsL_seen wsX3_price := goodIn_r _ [18, 19, 87, 88, 89, 90, 91, 92, 93, 94, 95, 103, 104, 105, 106, 107, 108, 109, 110] (by decide +kernel) (by decide +kernel)
set_option maxRecDepth 100000 in
theorem ggL_seen_X3_tax : GoodIn wsL_seen wsX3_tax := goodIn_r _ [23, 19, 87, 88, 89, 90, 91, 92, 93, 94, 95, 103, 104, 105, 106, 107, 108, 109, 110] (by decide +kernel) (by decide +kernel)
set_option maxRecDepth 100000 in
theorem ggL_seen_X3_sales : GoodIn wsL_seen wsX3_sales := goodIn_r _ [27, 19, 87, 88, 89, 90, 91, 92, 93, 94, 95, 103, 104, 105, 106, 107, 108, 109, 110] (by decide +kernel) (by decide +kernel)
set_option maxRecDepth 100000 in
theorem ggL_seen_X3_floods : GoodIn wsL_seen wsX3_floods := goodIn_r _ [31, 19, 87, 88, 89, 90, 91, 92, 93, 94, 95, 103, 104, 105, 106, 107, 108, 109, 110] (by decide +kernel) (by decide +kernel)
set_option maxRecDepth 100000 in
theorem ggL_seen_X3_ownerAt : GoodIn wsL_seen wsX3_ownerAt := goodIn_ca (goodIn_r _ [35, 19, 36, 37, 6, 38, 39, 40, 41, 42, 43, 44, 45, 46, 47, 48, 49, 87, 88, 89, 90, 91, 92, 93, 94, 95, 103, 104, 105, 106, 107, 108, 109, 110] (by decide +kernel) (by decide +kernel)) (goodIn_sub (fun _ h => List.mem_cons_of_mem _ (List.mem_append_right _ h)) (by decide +kernel))
set_option maxRecDepth 100000 in
theorem ggL_seen_X3_heightAt : GoodIn wsL_seen wsX3_heightAt := goodIn_ca (goodIn_r _ [53, 19, 36, 37, 6, 38, 39, 40, 41, 42, 43, 54, 55, 56, 47, 57, 58, 87, 88, 89, 90, 91, 92, 93, 94, 95, 103, 104, 105, 106, 107, 108, 109, 110] (by decide +kernel) (by decide +kernel)) (goodIn_sub (fun _ h => List.mem_cons_of_mem _ (List.mem_append_right _ h)) (by decide +kernel))
set_option maxRecDepth 100000 in
theorem ggL_seen_X3_coinsOf : GoodIn wsL_seen wsX3_coinsOf := goodIn_ca (goodIn_r _ [62, 19, 63, 64, 6, 65, 39, 40, 66, 67, 68, 69, 70, 71, 47, 72, 73, 87, 88, 89, 90, 91, 92, 93, 94, 95, 103, 104, 105, 106, 107, 108, 109, 110] (by decide +kernel) (by decide +kernel)) (goodIn_sub (fun _ h => List.mem_cons_of_mem _ (List.mem_append_right _ h)) (by decide +kernel))
set_option maxRecDepth 100000 in
theorem ggL_seen_X3_plotsOf : GoodIn wsL_seen wsX3_plotsOf := goodIn_ca (goodIn_r _ [77, 8, 63, 64, 6, 65, 39, 40, 66, 67, 68, 78, 79, 80, 12, 81, 14, 82, 87, 88, 89, 90, 91, 92, 93, 94, 95, 96, 97, 98, 99, 100, 101, 102] (by decide +kernel) (by decide +kernel)) (goodIn_sub (fun _ h => List.mem_cons_of_mem _ (List.mem_append_right _ h)) (by decide +kernel))
set_option maxRecDepth 100000 in
theorem ggL_seen_X3_plotsLost : GoodIn wsL_seen wsX3_plotsLost := goodIn_r _ [86, 19, 87, 88, 89, 90, 91, 92, 93, 94, 95, 103, 104, 105, 106, 107, 108, 109, 110] (by decide +kernel) (by decide +kernel)
set_option maxRecDepth 100000 in
theorem gL_seen_X3_plots : GoodIn wsL_seen (wsV RL 128 RX3 yX3_plots wsX3_plots) := goodIn_app (goodIn_of _ (by decide +kernel)) ggL_seen_X3_plots
set_option maxRecDepth 100000 in
theorem gL_seen_X3_price : GoodIn wsL_seen (wsV RL 131 RX3 yX3_price wsX3_price) := goodIn_app (goodIn_of _ (by decide +kernel)) ggL_seen_X3_price
set_option maxRecDepth 100000 in
theorem gL_seen_X3_tax : GoodIn wsL_seen (wsV RL 134 RX3 yX3_tax wsX3_tax) := goodIn_app (goodIn_of _ (by decide +kernel)) ggL_seen_X3_tax
set_option maxRecDepth 100000 in
theorem gL_seen_X3_sales : GoodIn wsL_seen (wsV RL 137 RX3 yX3_sales wsX3_sales) := goodIn_app (goodIn_of _ (by decide +kernel)) ggL_seen_X3_sales
set_option maxRecDepth 100000 in
theorem gL_seen_X3_floods : GoodIn wsL_seen (wsV RL 140 RX3 yX3_floods wsX3_floods) := goodIn_app (goodIn_of _ (by decide +kernel)) ggL_seen_X3_floods
set_option maxRecDepth 100000 in
theorem gL_seen_X3_ownerAt : GoodIn wsL_seen (wsV RL 72 RX3 yX3_ownerAt wsX3_ownerAt) := goodIn_app (goodIn_of _ (by decide +kernel)) ggL_seen_X3_ownerAt
set_option maxRecDepth 100000 in
theorem gL_seen_X3_heightAt : GoodIn wsL_seen (wsV RL 76 RX3 yX3_heightAt wsX3_heightAt) := goodIn_app (goodIn_of _ (by decide +kernel)) ggL_seen_X3_heightAt
set_option maxRecDepth 100000 in
theorem gL_seen_X3_coinsOf : GoodIn wsL_seen (wsV RL 112 RX3 yX3_coinsOf wsX3_coinsOf) := goodIn_app (goodIn_of _ (by decide +kernel)) ggL_seen_X3_coinsOf
set_option maxRecDepth 100000 in
theorem gL_seen_X3_plotsOf : GoodIn wsL_seen (wsV RL 88 RX3 yX3_plotsOf wsX3_plotsOf) := goodIn_app (goodIn_of _ (by decide +kernel)) ggL_seen_X3_plotsOf
set_option maxRecDepth 100000 in
theorem gL_seen_X3_plotsLost : GoodIn wsL_seen (wsV RL 143 RX3 yX3_plotsLost wsX3_plotsLost) := goodIn_app (goodIn_of _ (by decide +kernel)) ggL_seen_X3_plotsLost
set_option maxRecDepth 100000 in
theorem ggL_plot_X3_plotOwner : GoodIn wsL_plot wsX3_plotOwner := goodIn_ca (goodIn_r _ [6, 7, 8, 9, 10, 5, 11, 12, 13, 14, 15, 16, 17, 18, 19, 20, 21, 22, 23, 24, 25, 53, 54, 55, 56, 57, 58, 59, 60, 61, 62, 63, 64, 65, 66, 67, 68] (by decide +kernel) (by decide +kernel)) (goodIn_sub (fun _ h => List.mem_cons_of_mem _ (List.mem_append_right _ h)) (by decide +kernel))
set_option maxRecDepth 100000 in
theorem ggL_plot_X3_plotX : GoodIn wsL_plot wsX3_plotX := goodIn_ca (goodIn_r _ [29, 7, 8, 9, 10, 5, 11, 12, 13, 14, 15, 16, 17, 18, 19, 30, 31, 32, 33, 34, 25, 53, 54, 55, 56, 57, 58, 59, 60, 61, 62, 63, 64, 65, 66, 67, 68] (by decide +kernel) (by decide +kernel)) (goodIn_sub (fun _ h => List.mem_cons_of_mem _ (List.mem_append_right _ h)) (by decide +kernel))
set_option maxRecDepth 100000 in
theorem ggL_plot_X3_plotY : GoodIn wsL_plot wsX3_plotY := goodIn_ca (goodIn_r _ [38, 7, 8, 9, 10, 5, 11, 12, 13, 14, 15, 16, 17, 18, 19, 39, 40, 41, 42, 43, 25, 53, 54, 55, 56, 57, 58, 59, 60, 61, 62, 63, 64, 65, 66, 67, 68] (by decide +kernel) (by decide +kernel)) (goodIn_sub (fun _ h => List.mem_cons_of_mem _ (List.mem_append_right _ h)) (by decide +kernel))
set_option maxRecDepth 100000 in
theorem ggL_plot_X3_plotSize : GoodIn wsL_plot wsX3_plotSize := goodIn_ca (goodIn_r _ [47, 7, 8, 9, 10, 5, 11, 12, 13, 14, 15, 16, 17, 18, 19, 48, 49, 50, 51, 52, 25, 53, 54, 55, 56, 57, 58, 59, 60, 61, 62, 63, 64, 65, 66, 67, 68] (by decide +kernel) (by decide +kernel)) (goodIn_sub (fun _ h => List.mem_cons_of_mem _ (List.mem_append_right _ h)) (by decide +kernel))
set_option maxRecDepth 100000 in
theorem gL_plot_X3_plotOwner : GoodIn wsL_plot (wsV RL 158 RX3 yX3_plotOwner wsX3_plotOwner) := goodIn_app (goodIn_of _ (by decide +kernel)) ggL_plot_X3_plotOwner
set_option maxRecDepth 100000 in
theorem gL_plot_X3_plotX : GoodIn wsL_plot (wsV RL 161 RX3 yX3_plotX wsX3_plotX) := goodIn_app (goodIn_of _ (by decide +kernel)) ggL_plot_X3_plotX
set_option maxRecDepth 100000 in
theorem gL_plot_X3_plotY : GoodIn wsL_plot (wsV RL 164 RX3 yX3_plotY wsX3_plotY) := goodIn_app (goodIn_of _ (by decide +kernel)) ggL_plot_X3_plotY
set_option maxRecDepth 100000 in
theorem gL_plot_X3_plotSize : GoodIn wsL_plot (wsV RL 167 RX3 yX3_plotSize wsX3_plotSize) := goodIn_app (goodIn_of _ (by decide +kernel)) ggL_plot_X3_plotSize
set_option maxRecDepth 100000 in
theorem ggL_is_X3_plotX : GoodIn wsL_is wsX3_plotX := goodIn_ca (goodIn_r _ [5, 6, 7, 8, 9, 4, 10, 11, 12, 13, 14, 15, 16, 17, 18, 19, 20, 21, 22, 23, 24, 67, 68, 69, 70, 71, 72, 73, 74, 75, 76, 77, 78, 79, 80, 81, 82] (by decide +kernel) (by decide +kernel)) (goodIn_sub (fun _ h => List.mem_cons_of_mem _ (List.mem_append_right _ h)) (by decide +kernel))
set_option maxRecDepth 100000 in
theorem ggL_is_X3_plotY : GoodIn wsL_is wsX3_plotY := goodIn_ca (goodIn_r _ [28, 6, 7, 8, 9, 4, 10, 11, 12, 13, 14, 15, 16, 17, 18, 29, 30, 31, 32, 33, 24, 67, 68, 69, 70, 71, 72, 73, 74, 75, 76, 77, 78, 79, 80, 81, 82] (by decide +kernel) (by decide +kernel)) (goodIn_sub (fun _ h => List.mem_cons_of_mem _ (List.mem_append_right _ h)) (by decide +kernel))
set_option maxRecDepth 100000 in
theorem ggL_is_X3_plotSize : GoodIn wsL_is wsX3_plotSize := goodIn_ca (goodIn_r _ [37, 6, 7, 8, 9, 4, 10, 11, 12, 13, 14, 15, 16, 17, 18, 38, 39, 40, 41, 42, 24, 67, 68, 69, 70, 71, 72, 73, 74, 75, 76, 77, 78, 79, 80, 81, 82] (by decide +kernel) (by decide +kernel)) (goodIn_sub (fun _ h => List.mem_cons_of_mem _ (List.mem_append_right _ h)) (by decide +kernel))
set_option maxRecDepth 100000 in
theorem ggL_is_X3_plotOwner : GoodIn wsL_is wsX3_plotOwner := goodIn_ca (goodIn_r _ [46, 6, 7, 8, 9, 4, 10, 11, 12, 13, 14, 15, 16, 17, 18, 47, 48, 49, 50, 51, 24, 67, 68, 69, 70, 71, 72, 73, 74, 75, 76, 77, 78, 79, 80, 81, 82] (by decide +kernel) (by decide +kernel)) (goodIn_sub (fun _ h => List.mem_cons_of_mem _ (List.mem_append_right _ h)) (by decide +kernel))
set_option maxRecDepth 100000 in
theorem ggL_is_X3_plotRankAt : GoodIn wsL_is wsX3_plotRankAt := goodIn_ca (goodIn_r _ [55, 6, 56, 57, 4, 58, 11, 12, 59, 60, 61, 62, 63, 64, 16, 65, 66, 67, 68, 69, 70, 71, 72, 73, 74, 75, 76, 77, 78, 79, 80, 81, 82] (by decide +kernel) (by decide +kernel)) (goodIn_sub (fun _ h => List.mem_cons_of_mem _ (List.mem_append_right _ h)) (by decide +kernel))
set_option maxRecDepth 100000 in
theorem gL_is_X3_plotX : GoodIn wsL_is (wsV RL 161 RX3 yX3_plotX wsX3_plotX) := goodIn_app (goodIn_of _ (by decide +kernel)) ggL_is_X3_plotX
set_option maxRecDepth 100000 in
theorem gL_is_X3_plotY : GoodIn wsL_is (wsV RL 164 RX3 yX3_plotY wsX3_plotY) := goodIn_app (goodIn_of _ (by decide +kernel)) ggL_is_X3_plotY
set_option maxRecDepth 100000 in
theorem gL_is_X3_plotSize : GoodIn wsL_is (wsV RL 167 RX3 yX3_plotSize wsX3_plotSize) := goodIn_app (goodIn_of _ (by decide +kernel)) ggL_is_X3_plotSize
set_option maxRecDepth 100000 in
theorem gL_is_X3_plotOwner : GoodIn wsL_is (wsV RL 158 RX3 yX3_plotOwner wsX3_plotOwner) := goodIn_app (goodIn_of _ (by decide +kernel)) ggL_is_X3_plotOwner
set_option maxRecDepth 100000 in
theorem gL_is_X3_plotRankAt : GoodIn wsL_is (wsV RL 82 RX3 yX3_plotRankAt wsX3_plotRankAt) := goodIn_app (goodIn_of _ (by decide +kernel)) ggL_is_X3_plotRankAt
set_option maxRecDepth 100000 in
theorem ggL_fences_X3_fenceByPlots : GoodIn wsL_fences wsX3_fenceByPlots := goodIn_ca (goodIn_r _ [5, 6, 7, 8, 4, 9, 10, 11, 12, 13, 14, 15, 16, 17, 18, 19, 20, 21, 22, 23, 24, 25, 26, 27, 28, 29, 30, 31, 32, 33, 34, 35, 36, 37, 38, 39, 40, 41, 60, 61, 62, 63, 64, 65, 66, 67, 68, 69, 70, 71, 72, 73, 74, 75, 76, 77, 78, 79, 80, 81, 82, 83] (by decide +kernel) (by decide +kernel)) (goodIn_sub (fun _ h => List.mem_cons_of_mem _ (List.mem_append_right _ h)) (by decide +kernel))
set_option maxRecDepth 100000 in
theorem ggL_fences_X3_fenceByCells : GoodIn wsL_fences wsX3_fenceByCells := goodIn_ca (goodIn_r _ [45, 46, 7, 8, 4, 9, 10, 11, 12, 13, 14, 47, 48, 49, 37, 50, 51, 35, 36, 38, 39, 40, 41, 52, 53, 54, 55, 60, 61, 62, 63, 64, 65, 66, 67, 68, 76, 77, 78, 79, 80, 81, 82, 83] (by decide +kernel) (by decide +kernel)) (goodIn_sub (fun _ h => List.mem_cons_of_mem _ (List.mem_append_right _ h)) (by decide +kernel))
set_option maxRecDepth 100000 in
theorem ggL_fences_X3_nearestNeighbour : GoodIn wsL_fences wsX3_nearestNeighbour := goodIn_ca (goodIn_r _ [59, 46, 7, 8, 4, 9, 10, 11, 12, 13, 14, 47, 48, 49, 37, 50, 51, 35, 36, 38, 39, 40, 41, 52, 53, 54, 55, 60, 61, 62, 63, 64, 65, 66, 67, 68, 76, 77, 78, 79, 80, 81, 82, 83] (by decide +kernel) (by decide +kernel)) (goodIn_sub (fun _ h => List.mem_cons_of_mem _ (List.mem_append_right _ h)) (by decide +kernel))
set_option maxRecDepth 100000 in
theorem gL_fences_X3_fenceByPlots : GoodIn wsL_fences (wsV RL 97 RX3 yX3_fenceByPlots wsX3_fenceByPlots) := goodIn_app (goodIn_of _ (by decide +kernel)) ggL_fences_X3_fenceByPlots
set_option maxRecDepth 100000 in
theorem gL_fences_X3_fenceByCells : GoodIn wsL_fences (wsV RL 100 RX3 yX3_fenceByCells wsX3_fenceByCells) := goodIn_app (goodIn_of _ (by decide +kernel)) ggL_fences_X3_fenceByCells
set_option maxRecDepth 100000 in
theorem gL_fences_X3_nearestNeighbour : GoodIn wsL_fences (wsV RL 121 RX3 yX3_nearestNeighbour wsX3_nearestNeighbour) := goodIn_app (goodIn_of _ (by decide +kernel)) ggL_fences_X3_nearestNeighbour
set_option maxRecDepth 100000 in
theorem ggL_types_X3_append : GoodIn wsL_types wsX3_append := goodIn_ca (goodIn_ca (goodIn_r _ [6, 7, 8, 9, 10, 11, 12, 13, 14, 15, 16, 17, 18, 19, 20, 21] (by decide +kernel) (by decide +kernel)) (goodIn_sub (fun _ h => List.mem_cons_of_mem _ (List.mem_append_left _ (List.mem_append_right _ h))) (by decide +kernel))) (goodIn_sub (fun _ h => List.mem_cons_of_mem _ (List.mem_append_right _ h)) (by decide +kernel))
set_option maxRecDepth 100000 in
theorem gL_types_X3_append : GoodIn wsL_types (wsV RL 35 RX3 yX3_append wsX3_append) := goodIn_app (goodIn_of _ (by decide +kernel)) ggL_types_X3_append
set_option maxRecDepth 100000 in
theorem ggL_isError_X3_clearBuffer : GoodIn wsL_isError wsX3_clearBuffer := goodIn_r _ [5, 6, 82, 83, 84, 85, 86, 87, 88, 89, 90] (by decide +kernel) (by decide +kernel)
set_option maxRecDepth 100000 in
theorem ggL_isError_L_types : GoodIn wsL_isError wsL_types := goodIn_ca (goodIn_ca (goodIn_r _ [10, 11, 12, 13, 14, 4, 15, 16, 17, 18, 19, 6, 20, 82, 83, 84, 85, 86, 87, 88, 89, 90] (by decide +kernel) (by decide +kernel)) (goodIn_sub (fun _ h => List.mem_cons_of_mem _ (List.mem_append_left _ (List.mem_append_right _ h))) (by decide +kernel))) (goodIn_sub (fun _ h => List.mem_cons_of_mem _ (List.mem_append_right _ h)) (by decide +kernel))
set_option maxRecDepth 100000 in
theorem ggL_isError_X3_firstError : GoodIn wsL_isError wsX3_firstError := goodIn_r _ [24, 25, 26, 27, 4, 28, 29, 6, 20, 30, 31, 32, 33, 34, 35, 36, 37, 38, 39, 40, 41, 42, 43, 44, 45, 46, 47, 48, 49, 50, 51, 52, 53, 54, 55, 56, 57, 58, 59, 60, 61, 62, 63, 64, 65, 66, 67, 68, 69, 70, 71, 72, 73, 74, 75, 76, 77, 78, 79, 80, 81, 82, 83, 84, 85, 86, 87, 88, 89, 90, 91, 92, 93, 94, 95, 96, 97] (by decide +kernel) (by decide +kernel)
set_option maxRecDepth 100000 in
theorem gL_isError_X3_clearBuffer : GoodIn wsL_isError (wsV RL 204 RX3 yX3_clearBuffer wsX3_clearBuffer) := goodIn_app (goodIn_of _ (by decide +kernel)) ggL_isError_X3_clearBuffer
set_option maxRecDepth 100000 in
theorem gL_isError_L_types : GoodIn wsL_isError (va_wsS RL 207 yL_types wsL_types) := goodIn_app (goodIn_of _ (by decide +kernel)) ggL_isError_L_types
set_option maxRecDepth 100000 in
theorem gL_isError_X3_firstError : GoodIn wsL_isError (wsV RL 211 RX3 yX3_firstError wsX3_firstError) := goodIn_app (goodIn_of _ (by decide +kernel)) ggL_isError_X3_firstError
