set_option maxRecDepth 20000 in
theorem ggL_lands_X3_init : GoodIn wsL_lands wsX3_init := goodIn_r _ [8, 9, 10, 11, 12, 13, 14, 15, 16, 17, 18, 19, 20, 21, 22, 23, 24, 25, 26, 27, 28, 29, 30, 31, 32, 33, 34, 35, 36, 37, 38, 39, 40, 41, 42, 43, 44, 45, 46, 47, 48, 49, 50, 51, 52, 53, 54, 55, 56, 57, 58, 59, 60, 61, 62, 63, 64, 65, 66, 67, 68, 69, 70, 71, 72, 3, 73, 74, 75, 76, 77, 78, 79, 80, 81, 82, 83, 84, 85, 86, 87, 88, 89, 90, 91, 92, 93, 94, 95, 96, 97, 98, 99, 100, 101, 600, 601, 602, 603, 604, 605, 606, 591, 592, 593, 594, 595, 596, 597, 598, 599, 607, 608, 609, 610, 611, 612, 613, 614, 615, 616, 617, 618, 619, 620, 621] (by decide +kernel) (by decide +kernel)
set_option maxRecDepth 20000 in
theorem gL_lands_X3_init : GoodIn wsL_lands (wsX3_init) := ggL_lands_X3_init
set_option maxRecDepth 20000 in
theorem ggL_lands_L_call : GoodIn wsL_lands wsL_call := goodIn_ca (goodIn_ca (goodIn_ca (goodIn_r _ [105, 106, 107, 108, 109, 110, 111, 3, 112, 16, 15, 113, 114, 115, 116, 117, 118, 72, 73, 119, 120, 121, 122, 123, 124, 125, 126, 127, 128, 129, 130, 82, 83, 131, 132, 133, 134, 20, 19, 135, 136, 137, 138, 139, 140, 141, 142, 18, 34, 35, 143, 45, 46, 47, 10, 11, 37, 48, 49, 50, 51, 52, 53, 54, 55, 56, 57, 58, 59, 144, 145, 146, 147, 148, 149, 150, 151, 152, 153, 154, 155, 156, 61, 62, 14, 63, 38, 43, 64, 65, 66, 67, 68, 69, 70, 71, 74, 75, 76, 77, 36, 78, 79, 80, 81, 84, 85, 86, 87, 39, 40, 41, 42, 88, 89, 90, 91, 157, 158, 159, 160, 161, 162, 163, 164, 165, 166, 167, 168, 169, 170, 171, 172, 173, 174, 175, 176, 177, 178, 179, 180, 181, 182, 183, 184, 185, 186, 187, 188, 189, 190, 191, 192, 193, 194, 195, 196, 197, 198, 199, 200, 201, 202, 203, 204, 205, 206, 207, 208, 209, 210, 211, 212, 213, 214, 215, 216, 217, 218, 219, 220, 221, 222, 223, 224, 225, 226, 227, 228, 229, 230, 231, 232, 233, 234, 235, 236, 237, 238, 239, 240, 241, 242, 243, 244, 245, 246, 247, 248, 249, 250, 251, 24, 23, 252, 253, 254, 255, 28, 256, 257, 258, 259, 260, 261, 262, 27, 263, 95, 264, 265, 266, 267, 268, 269, 270, 271, 96, 272, 273, 274, 275, 101, 276, 277, 278, 279, 97, 280, 281, 282, 283, 98, 284, 285, 286, 287, 99, 288, 289, 290, 291, 292, 293, 294, 295, 100, 296, 297, 298, 299, 300, 301, 302, 303, 304, 305, 306, 307, 308, 309, 310, 311, 312, 313, 314, 315, 316, 317, 318, 319, 320, 321, 322, 323, 324, 325, 326, 327, 328, 329, 330, 331, 332, 333, 334, 335, 336, 337, 338, 339, 340, 341, 342, 343, 344, 345, 346, 347, 348, 349, 350, 351, 352, 353, 354, 355, 356, 357, 358, 359, 360, 361, 362, 363, 364, 365, 366, 367, 368, 369, 370, 371, 372, 21, 373, 374, 375, 376, 377, 378, 379, 380, 381, 382, 383, 384, 385, 104, 386, 387, 388, 389, 390, 391, 392, 393, 394, 395, 396, 397, 398, 399, 400, 401, 402, 403, 404, 405, 406, 407, 408, 409, 410, 411, 412, 413, 414, 415, 416, 417, 418, 419, 420, 421, 422, 423, 424, 425, 426, 427, 428, 429, 430, 431, 432, 433, 434, 435, 436, 437, 438, 439, 440, 441, 442, 443, 444, 445, 446, 447, 448, 449, 450, 451, 452, 453, 454, 455, 456, 457, 458, 459, 460, 461, 462, 463, 464, 465, 466, 467, 468, 469, 470, 471, 472, 473, 474, 475, 476, 477, 478, 479, 480, 481, 482, 483, 484, 485, 486, 487, 488, 489, 490, 491, 492, 493, 494, 495, 496, 497, 498, 499, 17, 500, 501, 502, 503, 591, 592, 593, 594, 595, 596, 597, 598, 599, 614, 615, 616, 617, 618, 619, 620, 621, 600, 601, 602, 603, 604, 605, 606, 607, 608, 609, 610, 611, 612, 613] (by decide +kernel) (by decide +kernel)) (goodIn_sub (fun _ h => List.mem_cons_of_mem _ (List.mem_append_left _ (List.mem_append_left _ (List.mem_append_right _ h)))) (by decide +kernel))) (goodIn_sub (fun _ h => List.mem_cons_of_mem _ (List.mem_append_left _ (List.mem_append_right _ h))) (by decide +kernel))) (goodIn_sub (fun _ h => List.mem_cons_of_mem _ (List.mem_append_right _ h)) (by decide +kernel))
set_option maxRecDepth 20000 in
theorem gL_lands_L_call : GoodIn wsL_lands (va_wsS RL 150 yL_call wsL_call) := goodIn_app (goodIn_of _ (by decide +kernel)) ggL_lands_L_call
set_option maxRecDepth 20000 in
theorem ggL_lands_X3_plots : GoodIn wsL_lands wsX3_plots := goodIn_r _ [507, 15, 376, 377, 378, 14, 379, 43, 591, 592, 593, 594, 595, 596, 597, 598, 599, 600, 601, 602, 603, 604, 605, 606] (by decide +kernel) (by decide +kernel)
set_option maxRecDepth 20000 in
theorem gL_lands_X3_plots : GoodIn wsL_lands (wsV RL 128 RX3 yX3_plots wsX3_plots) := goodIn_app (goodIn_of _ (by decide +kernel)) ggL_lands_X3_plots
set_option maxRecDepth 20000 in
theorem ggL_lands_L_is : GoodIn wsL_lands wsL_is := goodIn_ca (goodIn_r _ [510, 511, 512, 513, 3, 514, 15, 515, 516, 517, 518, 116, 117, 519, 196, 197, 14, 198, 43, 191, 192, 193, 194, 40, 195, 520, 521, 522, 523, 199, 200, 201, 202, 41, 524, 525, 526, 527, 203, 204, 205, 206, 42, 528, 529, 530, 531, 532, 533, 534, 535, 39, 404, 405, 406, 407, 113, 114, 115, 118, 72, 73, 190, 69, 70, 71, 38, 591, 592, 593, 594, 595, 596, 597, 598, 599, 600, 601, 602, 603, 604, 605, 606] (by decide +kernel) (by decide +kernel)) (goodIn_sub (fun _ h => List.mem_cons_of_mem _ (List.mem_append_left _ (List.mem_append_left _ (List.mem_append_right _ h)))) (by decide +kernel))
set_option maxRecDepth 20000 in
theorem gL_lands_L_is : GoodIn wsL_lands (va_wsS RL 182 yL_is wsL_is) := goodIn_app (goodIn_of _ (by decide +kernel)) ggL_lands_L_is
set_option maxRecDepth 20000 in
theorem ggL_lands_X3_coinsOf : GoodIn wsL_lands wsX3_coinsOf := goodIn_ca (goodIn_r _ [483, 16, 119, 120, 3, 121, 116, 117, 122, 123, 124, 344, 220, 221, 35, 222, 50, 591, 592, 593, 594, 595, 596, 597, 598, 599, 614, 615, 616, 617, 618, 619, 620, 621] (by decide +kernel) (by decide +kernel)) (goodIn_sub (fun _ h => List.mem_cons_of_mem _ (List.mem_append_left _ (List.mem_append_left _ (List.mem_append_right _ h)))) (by decide +kernel))
set_option maxRecDepth 20000 in
theorem gL_lands_X3_coinsOf : GoodIn wsL_lands (wsV RL 112 RX3 yX3_coinsOf wsX3_coinsOf) := goodIn_app (goodIn_of _ (by decide +kernel)) ggL_lands_X3_coinsOf
set_option maxRecDepth 20000 in
theorem ggL_lands_L_fences : GoodIn wsL_lands wsL_fences := goodIn_ca (goodIn_r _ [538, 436, 437, 438, 3, 439, 15, 119, 120, 121, 116, 117, 122, 123, 124, 440, 441, 442, 14, 443, 43, 39, 40, 41, 42, 444, 445, 446, 447, 448, 449, 450, 451, 36, 88, 89, 90, 35, 91, 48, 72, 73, 452, 453, 454, 455, 16, 456, 457, 458, 459, 218, 460, 461, 462, 463, 492, 493, 494, 495, 591, 592, 593, 594, 595, 596, 597, 598, 599, 600, 601, 602, 603, 604, 605, 606, 614, 615, 616, 617, 618, 619, 620, 621] (by decide +kernel) (by decide +kernel)) (goodIn_sub (fun _ h => List.mem_cons_of_mem _ (List.mem_append_left _ (List.mem_append_left _ (List.mem_append_right _ h)))) (by decide +kernel))
set_option maxRecDepth 20000 in
theorem gL_lands_L_fences : GoodIn wsL_lands (va_wsS RL 186 yL_fences wsL_fences) := goodIn_app (goodIn_of _ (by decide +kernel)) ggL_lands_L_fences
set_option maxRecDepth 20000 in
theorem ggL_lands_X3_meanHeight : GoodIn wsL_lands wsX3_meanHeight := goodIn_r _ [542, 16, 543, 544, 545, 546, 35, 547, 49, 591, 592, 593, 594, 595, 596, 597, 598, 599, 614, 615, 616, 617, 618, 619, 620, 621] (by decide +kernel) (by decide +kernel)
set_option maxRecDepth 20000 in
theorem gL_lands_X3_meanHeight : GoodIn wsL_lands (wsV RL 190 RX3 yX3_meanHeight wsX3_meanHeight) := goodIn_app (goodIn_of _ (by decide +kernel)) ggL_lands_X3_meanHeight
set_option maxRecDepth 20000 in
theorem ggL_lands_X3_largestPlotOf : GoodIn wsL_lands wsX3_largestPlotOf := goodIn_ca (goodIn_r _ [471, 15, 119, 120, 3, 121, 116, 117, 122, 123, 124, 472, 473, 474, 14, 475, 43, 39, 42, 591, 592, 593, 594, 595, 596, 597, 598, 599, 600, 601, 602, 603, 604, 605, 606] (by decide +kernel) (by decide +kernel)) (goodIn_sub (fun _ h => List.mem_cons_of_mem _ (List.mem_append_left _ (List.mem_append_left _ (List.mem_append_right _ h)))) (by decide +kernel))
set_option maxRecDepth 20000 in
theorem gL_lands_X3_largestPlotOf : GoodIn wsL_lands (wsV RL 106 RX3 yX3_largestPlotOf wsX3_largestPlotOf) := goodIn_app (goodIn_of _ (by decide +kernel)) ggL_lands_X3_largestPlotOf
set_option maxRecDepth 20000 in
theorem ggL_lands_X3_collectTaxes : GoodIn wsL_lands wsX3_collectTaxes := goodIn_r _ [503, 15, 131, 132, 133, 3, 134, 20, 19, 135, 136, 137, 138, 139, 140, 141, 142, 18, 34, 35, 16, 143, 45, 46, 47, 10, 11, 37, 48, 49, 50, 51, 52, 53, 54, 55, 56, 57, 58, 59, 144, 145, 146, 147, 148, 149, 150, 151, 332, 333, 334, 335, 336, 337, 338, 339, 340, 341, 342, 14, 343, 43, 39, 344, 220, 221, 222, 123, 124, 345, 346, 347, 348, 349, 350, 351, 352, 42, 191, 192, 193, 194, 40, 195, 196, 197, 198, 199, 200, 201, 202, 41, 203, 204, 205, 206, 152, 153, 154, 155, 82, 83, 353, 354, 355, 356, 357, 232, 233, 234, 156, 61, 62, 63, 38, 64, 65, 66, 67, 68, 69, 70, 71, 72, 73, 74, 75, 76, 77, 36, 78, 79, 80, 81, 84, 85, 86, 87, 88, 89, 90, 91, 591, 592, 593, 594, 595, 596, 597, 598, 599, 614, 615, 616, 617, 618, 619, 620, 621, 600, 601, 602, 603, 604, 605, 606] (by decide +kernel) (by decide +kernel)
set_option maxRecDepth 20000 in
theorem gL_lands_X3_collectTaxes : GoodIn wsL_lands (wsV RL 63 RX3 yX3_collectTaxes wsX3_collectTaxes) := goodIn_app (goodIn_of _ (by decide +kernel)) ggL_lands_X3_collectTaxes
set_option maxRecDepth 20000 in
theorem ggL_lands_L_refused : GoodIn wsL_lands wsL_refused := goodIn_ca (goodIn_ca (goodIn_ca (goodIn_r _ [550, 551, 552, 104, 553, 554, 555, 504, 505, 506, 3, 507, 15, 376, 377, 378, 14, 379, 43, 556, 557, 558, 559, 16, 560, 561, 562, 563, 564, 565, 566, 567, 568, 569, 570, 571, 387, 388, 389, 390, 113, 114, 115, 116, 117, 118, 72, 73, 391, 89, 90, 35, 91, 48, 392, 393, 394, 395, 396, 397, 398, 399, 49, 480, 481, 482, 483, 119, 120, 121, 122, 123, 124, 344, 220, 221, 222, 50, 416, 417, 418, 419, 340, 341, 342, 343, 39, 572, 573, 574, 575, 576, 577, 578, 579, 20, 580, 581, 582, 583, 584, 585, 586, 587, 102, 103, 105, 106, 107, 108, 109, 110, 111, 112, 125, 126, 127, 128, 129, 130, 82, 83, 131, 132, 133, 134, 19, 135, 136, 137, 138, 139, 140, 141, 142, 18, 34, 143, 45, 46, 47, 10, 11, 37, 51, 52, 53, 54, 55, 56, 57, 58, 59, 144, 145, 146, 147, 148, 149, 150, 151, 152, 153, 154, 155, 156, 61, 62, 63, 38, 64, 65, 66, 67, 68, 69, 70, 71, 74, 75, 76, 77, 36, 78, 79, 80, 81, 84, 85, 86, 87, 40, 41, 42, 88, 157, 158, 159, 160, 161, 162, 163, 164, 165, 166, 167, 168, 169, 170, 171, 172, 173, 174, 175, 176, 177, 178, 179, 180, 181, 182, 183, 184, 185, 186, 187, 188, 189, 190, 191, 192, 193, 194, 195, 196, 197, 198, 199, 200, 201, 202, 203, 204, 205, 206, 207, 208, 209, 210, 211, 212, 213, 214, 215, 216, 217, 218, 219, 223, 224, 225, 226, 227, 228, 229, 230, 231, 232, 233, 234, 235, 236, 237, 238, 239, 240, 241, 242, 243, 244, 245, 246, 247, 248, 249, 250, 251, 24, 23, 252, 253, 254, 255, 28, 256, 257, 258, 259, 260, 261, 262, 27, 263, 95, 264, 265, 266, 267, 268, 269, 270, 271, 96, 272, 273, 274, 275, 101, 276, 277, 278, 279, 97, 280, 281, 282, 283, 98, 284, 285, 286, 287, 99, 288, 289, 290, 291, 292, 293, 294, 295, 100, 296, 297, 298, 299, 300, 301, 302, 303, 304, 305, 306, 307, 308, 309, 310, 311, 312, 313, 314, 315, 316, 317, 318, 319, 320, 321, 322, 323, 324, 325, 326, 327, 328, 329, 330, 331, 332, 333, 334, 335, 336, 337, 338, 339, 345, 346, 347, 348, 349, 350, 351, 352, 353, 354, 355, 356, 357, 358, 359, 360, 361, 362, 363, 364, 365, 366, 367, 368, 369, 370, 371, 372, 21, 373, 374, 375, 380, 381, 382, 383, 384, 385, 386, 400, 401, 402, 403, 404, 405, 406, 407, 408, 409, 410, 411, 412, 413, 414, 415, 420, 421, 422, 423, 424, 425, 426, 427, 428, 429, 430, 431, 432, 433, 434, 435, 436, 437, 438, 439, 440, 441, 442, 443, 444, 445, 446, 447, 448, 449, 450, 451, 452, 453, 454, 455, 456, 457, 458, 459, 460, 461, 462, 463, 464, 465, 466, 467, 468, 469, 470, 471, 472, 473, 474, 475, 476, 477, 478, 479, 484, 485, 486, 487, 488, 489, 490, 491, 492, 493, 494, 495, 496, 497, 498, 499, 17, 500, 501, 502, 503, 588, 589, 590, 528, 529, 530, 531, 515, 516, 517, 518, 519, 532, 533, 534, 535, 511, 512, 513, 514, 520, 521, 522, 523, 524, 525, 526, 527, 591, 592, 593, 594, 595, 596, 597, 598, 599, 600, 601, 602, 603, 604, 605, 606, 614, 615, 616, 617, 618, 619, 620, 621, 607, 608, 609, 610, 611, 612, 613] (by decide +kernel) (by decide +kernel)) (goodIn_sub (fun _ h => List.mem_cons_of_mem _ (List.mem_append_left _ (List.mem_append_left _ (List.mem_append_right _ h)))) (by decide +kernel))) (goodIn_sub (fun _ h => List.mem_cons_of_mem _ (List.mem_append_left _ (List.mem_append_right _ h))) (by decide +kernel))) (goodIn_sub (fun _ h => List.mem_cons_of_mem _ (List.mem_append_right _ h)) (by decide +kernel))
set_option maxRecDepth 20000 in
theorem gL_lands_L_refused : GoodIn wsL_lands (va_wsS RL 196 yL_refused wsL_refused) := goodIn_app (goodIn_of _ (by decide +kernel)) ggL_lands_L_refused
set_option maxRecDepth 20000 in
theorem ggL_lands_X3_grant : GoodIn wsL_lands wsX3_grant := goodIn_ca (goodIn_ca (goodIn_r _ [112, 16, 15, 113, 114, 3, 115, 116, 117, 118, 72, 73, 119, 120, 121, 122, 123, 124, 125, 126, 127, 128, 129, 130, 82, 83, 131, 132, 133, 134, 20, 19, 135, 136, 137, 138, 139, 140, 141, 142, 18, 34, 35, 143, 45, 46, 47, 10, 11, 37, 48, 49, 50, 51, 52, 53, 54, 55, 56, 57, 58, 59, 144, 145, 146, 147, 148, 149, 150, 151, 152, 153, 154, 155, 156, 61, 62, 14, 63, 38, 43, 64, 65, 66, 67, 68, 69, 70, 71, 74, 75, 76, 77, 36, 78, 79, 80, 81, 84, 85, 86, 87, 39, 40, 41, 42, 88, 89, 90, 91, 591, 592, 593, 594, 595, 596, 597, 598, 599, 614, 615, 616, 617, 618, 619, 620, 621, 600, 601, 602, 603, 604, 605, 606] (by decide +kernel) (by decide +kernel)) (goodIn_sub (fun _ h => List.mem_cons_of_mem _ (List.mem_append_left _ (List.mem_append_left _ (List.mem_append_right _ h)))) (by decide +kernel))) (goodIn_sub (fun _ h => List.mem_cons_of_mem _ (List.mem_append_left _ (List.mem_append_right _ h))) (by decide +kernel))
set_option maxRecDepth 20000 in
theorem gL_lands_X3_grant : GoodIn wsL_lands (wsV RL 9 RX3 yX3_grant wsX3_grant) := goodIn_app (goodIn_of _ (by decide +kernel)) ggL_lands_X3_grant
set_option maxRecDepth 20000 in
theorem ggL_lands_X3_plotsOf : GoodIn wsL_lands wsX3_plotsOf := goodIn_ca (goodIn_r _ [419, 15, 119, 120, 3, 121, 116, 117, 122, 123, 124, 340, 341, 342, 14, 343, 43, 39, 591, 592, 593, 594, 595, 596, 597, 598, 599, 600, 601, 602, 603, 604, 605, 606] (by decide +kernel) (by decide +kernel)) (goodIn_sub (fun _ h => List.mem_cons_of_mem _ (List.mem_append_left _ (List.mem_append_left _ (List.mem_append_right _ h)))) (by decide +kernel))
set_option maxRecDepth 20000 in
theorem gL_lands_X3_plotsOf : GoodIn wsL_lands (wsV RL 88 RX3 yX3_plotsOf wsX3_plotsOf) := goodIn_app (goodIn_of _ (by decide +kernel)) ggL_lands_X3_plotsOf
set_option maxRecDepth 20000 in
theorem ggL_lands_X3_areaByPlots : GoodIn wsL_lands wsX3_areaByPlots := goodIn_ca (goodIn_r _ [423, 15, 119, 120, 3, 121, 116, 117, 122, 123, 124, 424, 425, 426, 14, 427, 43, 39, 42, 591, 592, 593, 594, 595, 596, 597, 598, 599, 600, 601, 602, 603, 604, 605, 606] (by decide +kernel) (by decide +kernel)) (goodIn_sub (fun _ h => List.mem_cons_of_mem _ (List.mem_append_left _ (List.mem_append_left _ (List.mem_append_right _ h)))) (by decide +kernel))
set_option maxRecDepth 20000 in
theorem gL_lands_X3_areaByPlots : GoodIn wsL_lands (wsV RL 91 RX3 yX3_areaByPlots wsX3_areaByPlots) := goodIn_app (goodIn_of _ (by decide +kernel)) ggL_lands_X3_areaByPlots
set_option maxRecDepth 20000 in
theorem ggL_lands_X3_areaByCells : GoodIn wsL_lands wsX3_areaByCells := goodIn_ca (goodIn_r _ [431, 16, 119, 120, 3, 121, 116, 117, 122, 123, 124, 432, 433, 434, 35, 435, 48, 49, 591, 592, 593, 594, 595, 596, 597, 598, 599, 614, 615, 616, 617, 618, 619, 620, 621] (by decide +kernel) (by decide +kernel)) (goodIn_sub (fun _ h => List.mem_cons_of_mem _ (List.mem_append_left _ (List.mem_append_left _ (List.mem_append_right _ h)))) (by decide +kernel))
set_option maxRecDepth 20000 in
theorem gL_lands_X3_areaByCells : GoodIn wsL_lands (wsV RL 94 RX3 yX3_areaByCells wsX3_areaByCells) := goodIn_app (goodIn_of _ (by decide +kernel)) ggL_lands_X3_areaByCells
set_option maxRecDepth 20000 in
theorem ggL_lands_X3_fenceBetween : GoodIn wsL_lands wsX3_fenceBetween := goodIn_ca (goodIn_r _ [467, 16, 119, 120, 3, 121, 116, 117, 122, 123, 124, 456, 457, 458, 35, 459, 218, 89, 90, 91, 48, 72, 73, 460, 461, 462, 463, 591, 592, 593, 594, 595, 596, 597, 598, 599, 614, 615, 616, 617, 618, 619, 620, 621] (by decide +kernel) (by decide +kernel)) (goodIn_sub (fun _ h => List.mem_cons_of_mem _ (List.mem_append_left _ (List.mem_append_left _ (List.mem_append_right _ h)))) (by decide +kernel))
set_option maxRecDepth 20000 in
theorem gL_lands_X3_fenceBetween : GoodIn wsL_lands (wsV RL 103 RX3 yX3_fenceBetween wsX3_fenceBetween) := goodIn_app (goodIn_of _ (by decide +kernel)) ggL_lands_X3_fenceBetween
set_option maxRecDepth 20000 in
theorem ggL_lands_X3_firstToLose : GoodIn wsL_lands wsX3_firstToLose := goodIn_ca (goodIn_r _ [479, 15, 187, 188, 3, 189, 116, 117, 349, 350, 351, 14, 352, 43, 39, 42, 591, 592, 593, 594, 595, 596, 597, 598, 599, 600, 601, 602, 603, 604, 605, 606] (by decide +kernel) (by decide +kernel)) (goodIn_sub (fun _ h => List.mem_cons_of_mem _ (List.mem_append_left _ (List.mem_append_left _ (List.mem_append_right _ h)))) (by decide +kernel))
set_option maxRecDepth 20000 in
theorem gL_lands_X3_firstToLose : GoodIn wsL_lands (wsV RL 109 RX3 yX3_firstToLose wsX3_firstToLose) := goodIn_app (goodIn_of _ (by decide +kernel)) ggL_lands_X3_firstToLose
set_option maxRecDepth 20000 in
theorem ggL_lands_X3_plotPriceAt : GoodIn wsL_lands wsX3_plotPriceAt := goodIn_ca (goodIn_r _ [411, 16, 15, 113, 114, 3, 115, 116, 117, 118, 72, 73, 190, 69, 70, 14, 71, 38, 203, 204, 205, 206, 42, 195, 196, 197, 198, 43, 412, 224, 225, 35, 226, 51, 591, 592, 593, 594, 595, 596, 597, 598, 599, 600, 601, 602, 603, 604, 605, 606, 614, 615, 616, 617, 618, 619, 620, 621] (by decide +kernel) (by decide +kernel)) (goodIn_sub (fun _ h => List.mem_cons_of_mem _ (List.mem_append_left _ (List.mem_append_left _ (List.mem_append_right _ h)))) (by decide +kernel))
set_option maxRecDepth 20000 in
theorem gL_lands_X3_plotPriceAt : GoodIn wsL_lands (wsV RL 85 RX3 yX3_plotPriceAt wsX3_plotPriceAt) := goodIn_app (goodIn_of _ (by decide +kernel)) ggL_lands_X3_plotPriceAt
set_option maxRecDepth 20000 in
theorem ggL_lands_X3_buyPlot : GoodIn wsL_lands wsX3_buyPlot := goodIn_ca (goodIn_ca (goodIn_r _ [186, 15, 16, 187, 188, 3, 189, 116, 117, 113, 114, 115, 118, 72, 73, 190, 69, 70, 14, 71, 38, 191, 192, 193, 194, 40, 195, 196, 197, 198, 43, 199, 200, 201, 202, 41, 203, 204, 205, 206, 42, 207, 208, 209, 210, 211, 212, 213, 214, 215, 35, 216, 217, 79, 80, 81, 48, 82, 83, 218, 89, 90, 91, 219, 220, 221, 222, 50, 123, 124, 223, 224, 225, 226, 51, 131, 132, 133, 134, 20, 19, 135, 136, 137, 138, 139, 140, 141, 142, 18, 34, 143, 45, 46, 47, 10, 11, 37, 49, 52, 53, 54, 55, 56, 57, 58, 59, 144, 145, 146, 147, 148, 149, 150, 151, 227, 228, 229, 230, 231, 232, 233, 234, 235, 153, 154, 155, 156, 61, 62, 63, 64, 65, 66, 67, 68, 74, 75, 76, 77, 36, 78, 84, 85, 86, 87, 39, 88, 591, 592, 593, 594, 595, 596, 597, 598, 599, 600, 601, 602, 603, 604, 605, 606, 614, 615, 616, 617, 618, 619, 620, 621] (by decide +kernel) (by decide +kernel)) (goodIn_sub (fun _ h => List.mem_cons_of_mem _ (List.mem_append_left _ (List.mem_append_left _ (List.mem_append_right _ h)))) (by decide +kernel))) (goodIn_sub (fun _ h => List.mem_cons_of_mem _ (List.mem_append_right _ h)) (by decide +kernel))
set_option maxRecDepth 20000 in
theorem gL_lands_X3_buyPlot : GoodIn wsL_lands (wsV RL 22 RX3 yX3_buyPlot wsX3_buyPlot) := goodIn_app (goodIn_of _ (by decide +kernel)) ggL_lands_X3_buyPlot
set_option maxRecDepth 20000 in
theorem ggL_lands_X3_buySquare : GoodIn wsL_lands wsX3_buySquare := goodIn_ca (goodIn_ca (goodIn_ca (goodIn_r _ [239, 16, 15, 187, 188, 3, 189, 116, 117, 113, 114, 115, 118, 72, 73, 125, 126, 127, 128, 129, 130, 82, 83, 207, 208, 209, 210, 211, 212, 213, 214, 215, 35, 216, 217, 79, 80, 81, 48, 218, 89, 90, 91, 219, 220, 221, 222, 50, 123, 124, 223, 224, 225, 226, 51, 131, 132, 133, 134, 20, 19, 135, 136, 137, 138, 139, 140, 141, 142, 18, 34, 143, 45, 46, 47, 10, 11, 37, 49, 52, 53, 54, 55, 56, 57, 58, 59, 144, 145, 146, 147, 148, 149, 150, 151, 227, 228, 229, 230, 231, 232, 233, 234, 235, 153, 154, 155, 156, 61, 62, 14, 63, 38, 43, 64, 65, 66, 67, 68, 69, 70, 71, 74, 75, 76, 77, 36, 78, 84, 85, 86, 87, 39, 40, 41, 42, 88, 591, 592, 593, 594, 595, 596, 597, 598, 599, 614, 615, 616, 617, 618, 619, 620, 621, 600, 601, 602, 603, 604, 605, 606] (by decide +kernel) (by decide +kernel)) (goodIn_sub (fun _ h => List.mem_cons_of_mem _ (List.mem_append_left _ (List.mem_append_left _ (List.mem_append_right _ h)))) (by decide +kernel))) (goodIn_sub (fun _ h => List.mem_cons_of_mem _ (List.mem_append_left _ (List.mem_append_right _ h))) (by decide +kernel))) (goodIn_sub (fun _ h => List.mem_cons_of_mem _ (List.mem_append_right _ h)) (by decide +kernel))
set_option maxRecDepth 20000 in
theorem gL_lands_X3_buySquare : GoodIn wsL_lands (wsV RL 26 RX3 yX3_buySquare wsX3_buySquare) := goodIn_app (goodIn_of _ (by decide +kernel)) ggL_lands_X3_buySquare
set_option maxRecDepth 20000 in
theorem ggL_lands_X3_sales : GoodIn wsL_lands wsX3_sales := goodIn_r _ [567, 16, 591, 592, 593, 594, 595, 596, 597, 598, 599, 614, 615, 616, 617, 618, 619, 620, 621] (by decide +kernel) (by decide +kernel)
set_option maxRecDepth 20000 in
theorem gL_lands_X3_sales : GoodIn wsL_lands (wsV RL 137 RX3 yX3_sales wsX3_sales) := goodIn_app (goodIn_of _ (by decide +kernel)) ggL_lands_X3_sales
set_option maxRecDepth 20000 in
theorem ggL_lands_X3_raise : GoodIn wsL_lands wsX3_raise := goodIn_ca (goodIn_ca (goodIn_r _ [160, 128, 129, 16, 113, 114, 3, 115, 116, 117, 118, 72, 73, 125, 126, 127, 130, 82, 83, 131, 132, 133, 134, 20, 19, 135, 136, 137, 138, 139, 140, 141, 142, 18, 34, 35, 143, 45, 46, 47, 10, 11, 37, 48, 49, 50, 51, 52, 53, 54, 55, 56, 57, 58, 59, 144, 145, 146, 147, 148, 149, 150, 151, 161, 162, 163, 164, 165, 166, 167, 168, 169, 170, 171, 591, 592, 593, 594, 595, 596, 597, 598, 599, 614, 615, 616, 617, 618, 619, 620, 621] (by decide +kernel) (by decide +kernel)) (goodIn_sub (fun _ h => List.mem_cons_of_mem _ (List.mem_append_left _ (List.mem_append_right _ h))) (by decide +kernel))) (goodIn_sub (fun _ h => List.mem_cons_of_mem _ (List.mem_append_left _ (List.mem_append_left _ (List.mem_append_right _ h)))) (by decide +kernel))
set_option maxRecDepth 20000 in
theorem gL_lands_X3_raise : GoodIn wsL_lands (wsV RL 15 RX3 yX3_raise wsX3_raise) := goodIn_app (goodIn_of _ (by decide +kernel)) ggL_lands_X3_raise
set_option maxRecDepth 20000 in
theorem ggL_lands_X3_lowCells : GoodIn wsL_lands wsX3_lowCells := goodIn_ca (goodIn_ca (goodIn_r _ [487, 16, 119, 120, 3, 121, 116, 117, 122, 123, 124, 176, 177, 178, 128, 129, 432, 433, 434, 35, 435, 48, 49, 591, 592, 593, 594, 595, 596, 597, 598, 599, 614, 615, 616, 617, 618, 619, 620, 621] (by decide +kernel) (by decide +kernel)) (goodIn_sub (fun _ h => List.mem_cons_of_mem _ (List.mem_append_left _ (List.mem_append_left _ (List.mem_append_right _ h)))) (by decide +kernel))) (goodIn_sub (fun _ h => List.mem_cons_of_mem _ (List.mem_append_left _ (List.mem_append_right _ h))) (by decide +kernel))
set_option maxRecDepth 20000 in
theorem gL_lands_X3_lowCells : GoodIn wsL_lands (wsV RL 115 RX3 yX3_lowCells wsX3_lowCells) := goodIn_app (goodIn_of _ (by decide +kernel)) ggL_lands_X3_lowCells
set_option maxRecDepth 20000 in
theorem ggL_lands_X3_plotsIfFlooded : GoodIn wsL_lands wsX3_plotsIfFlooded := goodIn_ca (goodIn_r _ [499, 17, 16, 176, 177, 3, 178, 128, 129, 144, 145, 146, 35, 147, 48, 148, 149, 150, 151, 49, 50, 51, 52, 53, 54, 55, 179, 180, 181, 182, 156, 61, 62, 14, 63, 38, 43, 64, 57, 58, 59, 65, 66, 67, 68, 69, 70, 71, 72, 73, 74, 75, 76, 77, 36, 78, 79, 80, 81, 82, 83, 84, 85, 86, 87, 39, 40, 41, 42, 88, 89, 90, 91, 376, 377, 378, 379, 591, 592, 593, 594, 595, 596, 597, 598, 599, 600, 601, 602, 603, 604, 605, 606, 614, 615, 616, 617, 618, 619, 620, 621] (by decide +kernel) (by decide +kernel)) (goodIn_sub (fun _ h => List.mem_cons_of_mem _ (List.mem_append_left _ (List.mem_append_right _ h))) (by decide +kernel))
set_option maxRecDepth 20000 in
theorem gL_lands_X3_plotsIfFlooded : GoodIn wsL_lands (wsV RL 60 RX3 yX3_plotsIfFlooded wsX3_plotsIfFlooded) := goodIn_app (goodIn_of _ (by decide +kernel)) ggL_lands_X3_plotsIfFlooded
set_option maxRecDepth 20000 in
theorem ggL_lands_X3_keep : GoodIn wsL_lands wsX3_keep := goodIn_ca (goodIn_r _ [372, 21, 15, 373, 374, 3, 375, 116, 117, 139, 140, 141, 142, 18, 34, 35, 16, 143, 45, 46, 47, 10, 11, 37, 48, 49, 50, 51, 52, 53, 54, 55, 56, 57, 58, 59, 144, 145, 146, 147, 148, 149, 150, 151, 376, 377, 378, 14, 379, 43, 591, 592, 593, 594, 595, 596, 597, 598, 599, 614, 615, 616, 617, 618, 619, 620, 621, 600, 601, 602, 603, 604, 605, 606] (by decide +kernel) (by decide +kernel)) (goodIn_sub (fun _ h => List.mem_cons_of_mem _ (List.mem_append_left _ (List.mem_append_left _ (List.mem_append_right _ h)))) (by decide +kernel))
set_option maxRecDepth 20000 in
theorem gL_lands_X3_keep : GoodIn wsL_lands (wsV RL 45 RX3 yX3_keep wsX3_keep) := goodIn_app (goodIn_of _ (by decide +kernel)) ggL_lands_X3_keep
set_option maxRecDepth 20000 in
theorem ggL_lands_X3_flood : GoodIn wsL_lands wsX3_flood := goodIn_ca (goodIn_r _ [175, 16, 15, 176, 177, 3, 178, 128, 129, 131, 132, 133, 134, 20, 19, 135, 136, 137, 138, 139, 140, 141, 142, 18, 34, 35, 143, 45, 46, 47, 10, 11, 37, 48, 49, 50, 51, 52, 53, 54, 55, 56, 57, 58, 59, 144, 145, 146, 147, 148, 149, 150, 151, 179, 180, 181, 182, 156, 61, 62, 14, 63, 38, 43, 64, 65, 66, 67, 68, 69, 70, 71, 72, 73, 74, 75, 76, 77, 36, 78, 79, 80, 81, 82, 83, 84, 85, 86, 87, 39, 40, 41, 42, 88, 89, 90, 91, 591, 592, 593, 594, 595, 596, 597, 598, 599, 614, 615, 616, 617, 618, 619, 620, 621, 600, 601, 602, 603, 604, 605, 606] (by decide +kernel) (by decide +kernel)) (goodIn_sub (fun _ h => List.mem_cons_of_mem _ (List.mem_append_left _ (List.mem_append_right _ h))) (by decide +kernel))
set_option maxRecDepth 20000 in
theorem gL_lands_X3_flood : GoodIn wsL_lands (wsV RL 18 RX3 yX3_flood wsX3_flood) := goodIn_app (goodIn_of _ (by decide +kernel)) ggL_lands_X3_flood
set_option maxRecDepth 20000 in
theorem ggL_lands_X3_floods : GoodIn wsL_lands wsX3_floods := goodIn_r _ [571, 16, 591, 592, 593, 594, 595, 596, 597, 598, 599, 614, 615, 616, 617, 618, 619, 620, 621] (by decide +kernel) (by decide +kernel)
set_option maxRecDepth 20000 in
theorem gL_lands_X3_floods : GoodIn wsL_lands (wsV RL 140 RX3 yX3_floods wsX3_floods) := goodIn_app (goodIn_of _ (by decide +kernel)) ggL_lands_X3_floods
set_option maxRecDepth 20000 in
theorem ggL_lands_X3_ownerAt : GoodIn wsL_lands wsX3_ownerAt := goodIn_ca (goodIn_r _ [390, 16, 113, 114, 3, 115, 116, 117, 118, 72, 73, 391, 89, 90, 35, 91, 48, 591, 592, 593, 594, 595, 596, 597, 598, 599, 614, 615, 616, 617, 618, 619, 620, 621] (by decide +kernel) (by decide +kernel)) (goodIn_sub (fun _ h => List.mem_cons_of_mem _ (List.mem_append_left _ (List.mem_append_left _ (List.mem_append_right _ h)))) (by decide +kernel))
set_option maxRecDepth 20000 in
theorem gL_lands_X3_ownerAt : GoodIn wsL_lands (wsV RL 72 RX3 yX3_ownerAt wsX3_ownerAt) := goodIn_app (goodIn_of _ (by decide +kernel)) ggL_lands_X3_ownerAt
set_option maxRecDepth 20000 in
theorem ggL_lands_X3_plotSizeAt : GoodIn wsL_lands wsX3_plotSizeAt := goodIn_ca (goodIn_r _ [403, 15, 113, 114, 3, 115, 116, 117, 118, 72, 73, 190, 69, 70, 14, 71, 38, 203, 204, 205, 206, 42, 195, 196, 197, 198, 43, 591, 592, 593, 594, 595, 596, 597, 598, 599, 600, 601, 602, 603, 604, 605, 606] (by decide +kernel) (by decide +kernel)) (goodIn_sub (fun _ h => List.mem_cons_of_mem _ (List.mem_append_left _ (List.mem_append_left _ (List.mem_append_right _ h)))) (by decide +kernel))
set_option maxRecDepth 20000 in
theorem gL_lands_X3_plotSizeAt : GoodIn wsL_lands (wsV RL 79 RX3 yX3_plotSizeAt wsX3_plotSizeAt) := goodIn_app (goodIn_of _ (by decide +kernel)) ggL_lands_X3_plotSizeAt
set_option maxRecDepth 20000 in
theorem ggL_lands_X3_setTax : GoodIn wsL_lands wsX3_setTax := goodIn_ca (goodIn_r _ [247, 128, 129, 16, 131, 132, 133, 3, 134, 20, 19, 135, 136, 137, 138, 139, 140, 141, 142, 18, 34, 35, 143, 45, 46, 47, 10, 11, 37, 48, 49, 50, 51, 52, 53, 54, 55, 56, 57, 58, 59, 144, 145, 146, 147, 148, 149, 150, 151, 591, 592, 593, 594, 595, 596, 597, 598, 599, 614, 615, 616, 617, 618, 619, 620, 621] (by decide +kernel) (by decide +kernel)) (goodIn_sub (fun _ h => List.mem_cons_of_mem _ (List.mem_append_left _ (List.mem_append_right _ h))) (by decide +kernel))
set_option maxRecDepth 20000 in
theorem gL_lands_X3_setTax : GoodIn wsL_lands (wsV RL 32 RX3 yX3_setTax wsX3_setTax) := goodIn_app (goodIn_of _ (by decide +kernel)) ggL_lands_X3_setTax
set_option maxRecDepth 20000 in
theorem ggL_lands_X3_lossesIfTaxed : GoodIn wsL_lands wsX3_lossesIfTaxed := goodIn_ca (goodIn_r _ [491, 187, 188, 3, 189, 116, 117, 336, 337, 338, 339, 15, 16, 340, 341, 342, 14, 343, 43, 39, 344, 220, 221, 35, 222, 50, 123, 124, 591, 592, 593, 594, 595, 596, 597, 598, 599, 614, 615, 616, 617, 618, 619, 620, 621, 600, 601, 602, 603, 604, 605, 606] (by decide +kernel) (by decide +kernel)) (goodIn_sub (fun _ h => List.mem_cons_of_mem _ (List.mem_append_left _ (List.mem_append_left _ (List.mem_append_right _ h)))) (by decide +kernel))
set_option maxRecDepth 20000 in
theorem gL_lands_X3_lossesIfTaxed : GoodIn wsL_lands (wsV RL 118 RX3 yX3_lossesIfTaxed wsX3_lossesIfTaxed) := goodIn_app (goodIn_of _ (by decide +kernel)) ggL_lands_X3_lossesIfTaxed
set_option maxRecDepth 20000 in
theorem ggL_lands_X3_setPrice : GoodIn wsL_lands wsX3_setPrice := goodIn_ca (goodIn_r _ [243, 128, 129, 16, 131, 132, 133, 3, 134, 20, 19, 135, 136, 137, 138, 139, 140, 141, 142, 18, 34, 35, 143, 45, 46, 47, 10, 11, 37, 48, 49, 50, 51, 52, 53, 54, 55, 56, 57, 58, 59, 144, 145, 146, 147, 148, 149, 150, 151, 591, 592, 593, 594, 595, 596, 597, 598, 599, 614, 615, 616, 617, 618, 619, 620, 621] (by decide +kernel) (by decide +kernel)) (goodIn_sub (fun _ h => List.mem_cons_of_mem _ (List.mem_append_left _ (List.mem_append_right _ h))) (by decide +kernel))
set_option maxRecDepth 20000 in
theorem gL_lands_X3_setPrice : GoodIn wsL_lands (wsV RL 29 RX3 yX3_setPrice wsX3_setPrice) := goodIn_app (goodIn_of _ (by decide +kernel)) ggL_lands_X3_setPrice
set_option maxRecDepth 20000 in
theorem ggL_lands_X3_plotRankAt : GoodIn wsL_lands wsX3_plotRankAt := goodIn_ca (goodIn_r _ [407, 15, 113, 114, 3, 115, 116, 117, 118, 72, 73, 190, 69, 70, 14, 71, 38, 591, 592, 593, 594, 595, 596, 597, 598, 599, 600, 601, 602, 603, 604, 605, 606] (by decide +kernel) (by decide +kernel)) (goodIn_sub (fun _ h => List.mem_cons_of_mem _ (List.mem_append_left _ (List.mem_append_left _ (List.mem_append_right _ h)))) (by decide +kernel))
set_option maxRecDepth 20000 in
theorem gL_lands_X3_plotRankAt : GoodIn wsL_lands (wsV RL 82 RX3 yX3_plotRankAt wsX3_plotRankAt) := goodIn_app (goodIn_of _ (by decide +kernel)) ggL_lands_X3_plotRankAt
set_option maxRecDepth 20000 in
theorem ggL_lands_X3_plotsLost : GoodIn wsL_lands wsX3_plotsLost := goodIn_r _ [575, 16, 591, 592, 593, 594, 595, 596, 597, 598, 599, 614, 615, 616, 617, 618, 619, 620, 621] (by decide +kernel) (by decide +kernel)
set_option maxRecDepth 20000 in
theorem gL_lands_X3_plotsLost : GoodIn wsL_lands (wsV RL 143 RX3 yX3_plotsLost wsX3_plotsLost) := goodIn_app (goodIn_of _ (by decide +kernel)) ggL_lands_X3_plotsLost
set_option maxRecDepth 20000 in
theorem ggL_lands_X3_goBack : GoodIn wsL_lands wsX3_goBack := goodIn_ca (goodIn_ca (goodIn_r _ [383, 211, 212, 21, 15, 373, 374, 3, 375, 116, 117, 362, 363, 364, 131, 132, 133, 134, 20, 19, 135, 136, 137, 138, 139, 140, 141, 142, 18, 34, 35, 16, 143, 45, 46, 47, 10, 11, 37, 48, 49, 50, 51, 52, 53, 54, 55, 56, 57, 58, 59, 144, 145, 146, 147, 148, 149, 150, 151, 365, 366, 367, 368, 156, 61, 62, 14, 63, 38, 43, 64, 65, 66, 67, 68, 69, 70, 71, 72, 73, 74, 75, 76, 77, 36, 78, 79, 80, 81, 82, 83, 84, 85, 86, 87, 39, 40, 41, 42, 88, 89, 90, 91, 376, 377, 378, 379, 591, 592, 593, 594, 595, 596, 597, 598, 599, 614, 615, 616, 617, 618, 619, 620, 621, 600, 601, 602, 603, 604, 605, 606] (by decide +kernel) (by decide +kernel)) (goodIn_sub (fun _ h => List.mem_cons_of_mem _ (List.mem_append_right _ h)) (by decide +kernel))) (goodIn_sub (fun _ h => List.mem_cons_of_mem _ (List.mem_append_left _ (List.mem_append_left _ (List.mem_append_right _ h)))) (by decide +kernel))
set_option maxRecDepth 20000 in
theorem gL_lands_X3_goBack : GoodIn wsL_lands (wsV RL 48 RX3 yX3_goBack wsX3_goBack) := goodIn_app (goodIn_of _ (by decide +kernel)) ggL_lands_X3_goBack
set_option maxRecDepth 20000 in
theorem ggL_lands_X3_tax : GoodIn wsL_lands wsX3_tax := goodIn_r _ [563, 16, 591, 592, 593, 594, 595, 596, 597, 598, 599, 614, 615, 616, 617, 618, 619, 620, 621] (by decide +kernel) (by decide +kernel)
set_option maxRecDepth 20000 in
theorem gL_lands_X3_tax : GoodIn wsL_lands (wsV RL 134 RX3 yX3_tax wsX3_tax) := goodIn_app (goodIn_of _ (by decide +kernel)) ggL_lands_X3_tax
theorem dL_lands_0 : decode cL_lands 0 = .ok (.new 10, 3) := by decide +kernel
theorem dL_lands_3 : decode cL_lands 3 = .ok (.dup, 1) := by decide +kernel
theorem dL_lands_4 : decode cL_lands 4 = .ok (.invokespecial 181, 3) := by decide +kernel
theorem dL_lands_7 : decode cL_lands 7 = .ok (.astore_n 0, 1) := by decide +kernel
theorem dL_lands_8 : decode cL_lands 8 = .ok (.aload_n 0, 1) := by decide +kernel
theorem dL_lands_9 : decode cL_lands 9 = .ok (.bipush 9, 2) := by decide +kernel
theorem dL_lands_11 : decode cL_lands 11 = .ok (.iconst 0, 1) := by decide +kernel
theorem dL_lands_12 : decode cL_lands 12 = .ok (.iconst 0, 1) := by decide +kernel
theorem dL_lands_13 : decode cL_lands 13 = .ok (.iconst 0, 1) := by decide +kernel
theorem dL_lands_14 : decode cL_lands 14 = .ok (.iconst 0, 1) := by decide +kernel
theorem dL_lands_15 : decode cL_lands 15 = .ok (.invokestatic 150, 3) := by decide +kernel
theorem dL_lands_18 : decode cL_lands 18 = .ok (.sipush (-2013), 3) := by decide +kernel
theorem dL_lands_21 : decode cL_lands 21 = .ok (.if_icmp .ne 230, 3) := by decide +kernel
theorem dL_lands_24 : decode cL_lands 24 = .ok (.aload_n 0, 1) := by decide +kernel
theorem dL_lands_25 : decode cL_lands 25 = .ok (.bipush 11, 2) := by decide +kernel
theorem dL_lands_27 : decode cL_lands 27 = .ok (.iconst 1, 1) := by decide +kernel
theorem dL_lands_28 : decode cL_lands 28 = .ok (.iconst 0, 1) := by decide +kernel
theorem dL_lands_29 : decode cL_lands 29 = .ok (.iconst 0, 1) := by decide +kernel
theorem dL_lands_30 : decode cL_lands 30 = .ok (.iconst 0, 1) := by decide +kernel
theorem dL_lands_31 : decode cL_lands 31 = .ok (.invokestatic 150, 3) := by decide +kernel
theorem dL_lands_34 : decode cL_lands 34 = .ok (.sipush (-2013), 3) := by decide +kernel
theorem dL_lands_37 : decode cL_lands 37 = .ok (.if_icmp .ne 214, 3) := by decide +kernel
theorem dL_lands_40 : decode cL_lands 40 = .ok (.aload_n 0, 1) := by decide +kernel
theorem dL_lands_41 : decode cL_lands 41 = .ok (.invokevirtual 128, 3) := by decide +kernel
theorem dL_lands_44 : decode cL_lands 44 = .ok (.iconst 1, 1) := by decide +kernel
theorem dL_lands_45 : decode cL_lands 45 = .ok (.if_icmp .ne 206, 3) := by decide +kernel
theorem dL_lands_48 : decode cL_lands 48 = .ok (.aload_n 0, 1) := by decide +kernel
theorem dL_lands_49 : decode cL_lands 49 = .ok (.iconst 0, 1) := by decide +kernel
theorem dL_lands_50 : decode cL_lands 50 = .ok (.iconst 0, 1) := by decide +kernel
theorem dL_lands_51 : decode cL_lands 51 = .ok (.iconst 0, 1) := by decide +kernel
theorem dL_lands_52 : decode cL_lands 52 = .ok (.bipush 16, 2) := by decide +kernel
theorem dL_lands_54 : decode cL_lands 54 = .ok (.iconst 0, 1) := by decide +kernel
theorem dL_lands_55 : decode cL_lands 55 = .ok (.invokestatic 182, 3) := by decide +kernel
theorem dL_lands_58 : decode cL_lands 58 = .ok (.ifCond .eq 193, 3) := by decide +kernel
theorem dL_lands_61 : decode cL_lands 61 = .ok (.aload_n 0, 1) := by decide +kernel
theorem dL_lands_62 : decode cL_lands 62 = .ok (.iconst 0, 1) := by decide +kernel
theorem dL_lands_63 : decode cL_lands 63 = .ok (.invokevirtual 112, 3) := by decide +kernel
theorem dL_lands_66 : decode cL_lands 66 = .ok (.ifCond .ne 185, 3) := by decide +kernel
theorem dL_lands_69 : decode cL_lands 69 = .ok (.aload_n 0, 1) := by decide +kernel
theorem dL_lands_70 : decode cL_lands 70 = .ok (.bipush 7, 2) := by decide +kernel
theorem dL_lands_72 : decode cL_lands 72 = .ok (.invokevirtual 112, 3) := by decide +kernel
theorem dL_lands_75 : decode cL_lands 75 = .ok (.bipush 100, 2) := by decide +kernel
theorem dL_lands_77 : decode cL_lands 77 = .ok (.if_icmp .ne 174, 3) := by decide +kernel
theorem dL_lands_80 : decode cL_lands 80 = .ok (.aload_n 0, 1) := by decide +kernel
theorem dL_lands_81 : decode cL_lands 81 = .ok (.iconst 0, 1) := by decide +kernel
theorem dL_lands_82 : decode cL_lands 82 = .ok (.iconst 0, 1) := by decide +kernel
theorem dL_lands_83 : decode cL_lands 83 = .ok (.iconst (-1), 1) := by decide +kernel
theorem dL_lands_84 : decode cL_lands 84 = .ok (.invokestatic 186, 3) := by decide +kernel
theorem dL_lands_87 : decode cL_lands 87 = .ok (.ifCond .eq 164, 3) := by decide +kernel
theorem dL_lands_90 : decode cL_lands 90 = .ok (.aload_n 0, 1) := by decide +kernel
theorem dL_lands_91 : decode cL_lands 91 = .ok (.invokevirtual 190, 3) := by decide +kernel
theorem dL_lands_94 : decode cL_lands 94 = .ok (.ldc2_w 194, 3) := by decide +kernel
theorem dL_lands_97 : decode cL_lands 97 = .ok (.dcmp .l, 1) := by decide +kernel
theorem dL_lands_98 : decode cL_lands 98 = .ok (.ifCond .ne 153, 3) := by decide +kernel
theorem dL_lands_101 : decode cL_lands 101 = .ok (.aload_n 0, 1) := by decide +kernel
theorem dL_lands_102 : decode cL_lands 102 = .ok (.iconst 1, 1) := by decide +kernel
theorem dL_lands_103 : decode cL_lands 103 = .ok (.invokevirtual 106, 3) := by decide +kernel
theorem dL_lands_106 : decode cL_lands 106 = .ok (.iconst (-1), 1) := by decide +kernel
theorem dL_lands_107 : decode cL_lands 107 = .ok (.if_icmp .ne 144, 3) := by decide +kernel
theorem dL_lands_110 : decode cL_lands 110 = .ok (.aload_n 0, 1) := by decide +kernel
theorem dL_lands_111 : decode cL_lands 111 = .ok (.invokevirtual 63, 3) := by decide +kernel
theorem dL_lands_114 : decode cL_lands 114 = .ok (.ifCond .ne 137, 3) := by decide +kernel
theorem dL_lands_117 : decode cL_lands 117 = .ok (.aload_n 0, 1) := by decide +kernel
theorem dL_lands_118 : decode cL_lands 118 = .ok (.invokestatic 196, 3) := by decide +kernel
theorem dL_lands_121 : decode cL_lands 121 = .ok (.ifCond .eq 130, 3) := by decide +kernel
theorem dL_lands_124 : decode cL_lands 124 = .ok (.aload_n 0, 1) := by decide +kernel
theorem dL_lands_125 : decode cL_lands 125 = .ok (.iconst 0, 1) := by decide +kernel
theorem dL_lands_126 : decode cL_lands 126 = .ok (.iconst 0, 1) := by decide +kernel
theorem dL_lands_127 : decode cL_lands 127 = .ok (.bipush 8, 2) := by decide +kernel
theorem dL_lands_129 : decode cL_lands 129 = .ok (.iconst 1, 1) := by decide +kernel
theorem dL_lands_130 : decode cL_lands 130 = .ok (.invokevirtual 9, 3) := by decide +kernel
theorem dL_lands_133 : decode cL_lands 133 = .ok (.bipush 64, 2) := by decide +kernel
theorem dL_lands_135 : decode cL_lands 135 = .ok (.if_icmp .ne 116, 3) := by decide +kernel
theorem dL_lands_138 : decode cL_lands 138 = .ok (.aload_n 0, 1) := by decide +kernel
theorem dL_lands_139 : decode cL_lands 139 = .ok (.invokevirtual 128, 3) := by decide +kernel
theorem dL_lands_142 : decode cL_lands 142 = .ok (.iconst 4, 1) := by decide +kernel
theorem dL_lands_143 : decode cL_lands 143 = .ok (.if_icmp .ne 108, 3) := by decide +kernel
theorem dL_lands_146 : decode cL_lands 146 = .ok (.aload_n 0, 1) := by decide +kernel
theorem dL_lands_147 : decode cL_lands 147 = .ok (.bipush 8, 2) := by decide +kernel
theorem dL_lands_149 : decode cL_lands 149 = .ok (.iconst 0, 1) := by decide +kernel
theorem dL_lands_150 : decode cL_lands 150 = .ok (.iconst 4, 1) := by decide +kernel
theorem dL_lands_151 : decode cL_lands 151 = .ok (.iconst 2, 1) := by decide +kernel
theorem dL_lands_152 : decode cL_lands 152 = .ok (.invokevirtual 9, 3) := by decide +kernel
theorem dL_lands_155 : decode cL_lands 155 = .ok (.bipush 16, 2) := by decide +kernel
theorem dL_lands_157 : decode cL_lands 157 = .ok (.if_icmp .ne 94, 3) := by decide +kernel
theorem dL_lands_160 : decode cL_lands 160 = .ok (.aload_n 0, 1) := by decide +kernel
theorem dL_lands_161 : decode cL_lands 161 = .ok (.invokevirtual 128, 3) := by decide +kernel
theorem dL_lands_164 : decode cL_lands 164 = .ok (.bipush 7, 2) := by decide +kernel
theorem dL_lands_166 : decode cL_lands 166 = .ok (.if_icmp .ne 85, 3) := by decide +kernel
theorem dL_lands_169 : decode cL_lands 169 = .ok (.aload_n 0, 1) := by decide +kernel
theorem dL_lands_170 : decode cL_lands 170 = .ok (.iconst 1, 1) := by decide +kernel
theorem dL_lands_171 : decode cL_lands 171 = .ok (.bipush 8, 2) := by decide +kernel
theorem dL_lands_173 : decode cL_lands 173 = .ok (.iconst 0, 1) := by decide +kernel
theorem dL_lands_174 : decode cL_lands 174 = .ok (.iconst 4, 1) := by decide +kernel
