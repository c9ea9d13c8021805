set_option maxRecDepth 100000 in
theorem zz_lands_refused_0 : GoodIn wsL_lands [.code yL_refused cL_refused 5 (some .boolean)] := goodIn_r [.code yL_refused cL_refused 5 (some .boolean)] [550] (by decide +kernel) (by decide +kernel)
set_option maxRecDepth 100000 in
theorem zz_lands_refused_1 : GoodIn wsL_lands wsL_refused_r1 := goodIn_r _ [551, 552, 104, 553, 554, 555, 504, 505, 506, 3, 507, 15, 376, 377, 378, 14, 379, 43, 556, 557, 558, 559, 16, 560] (by decide +kernel) (by decide +kernel)
set_option maxRecDepth 100000 in
theorem zz_lands_refused_2 : GoodIn wsL_lands wsL_refused_r2 := goodIn_r _ [561, 562, 563, 564, 565, 566, 567, 568, 569, 570, 571, 387, 388, 389, 390, 113, 114, 115, 116, 117, 118, 72, 73, 391] (by decide +kernel) (by decide +kernel)
set_option maxRecDepth 100000 in
theorem zz_lands_refused_3 : GoodIn wsL_lands wsL_refused_r3 := goodIn_r _ [89, 90, 35, 91, 48, 392, 393, 394, 395, 396, 397, 398, 399, 49, 480, 481, 482, 483, 119, 120, 121, 122, 123, 124] (by decide +kernel) (by decide +kernel)
set_option maxRecDepth 100000 in
theorem zz_lands_refused_4 : GoodIn wsL_lands wsL_refused_r4 := goodIn_r _ [344, 220, 221, 222, 50, 416, 417, 418, 419, 340, 341, 342, 343, 39, 572, 573, 574, 575, 576, 577, 578, 579, 20, 580] (by decide +kernel) (by decide +kernel)
set_option maxRecDepth 100000 in
theorem zz_lands_refused_5 : GoodIn wsL_lands wsL_refused_r5 := goodIn_app (goodIn_r [Cond.static yL_refusesOne] [581] (by decide +kernel) (by decide +kernel)) (goodIn_app (goodIn_h 582 rfl (by decide +kernel)) (goodIn_r [Cond.constant RL 146 (-2147483648), Cond.methodLink RL 147 yL_far, Cond.static yL_far, Cond.code yL_far cL_far 3 (some .int), Cond.constant RL 7 (2147483647), Cond.methodLink RL 150 yL_call, Cond.static yL_call, Cond.codeWith yL_call cL_call 7 (some .int) [(0, 227, 228, 66), (0, 227, 234, 68), (0, 227, 240, 70)], Cond.classLink RL 66 "java/lang/IndexOutOfBoundsException", Cond.classLink RL 68 "java/lang/IllegalArgumentException", Cond.classLink RL 70 "java/lang/IllegalStateException", Cond.methodLink RL 9 yX3_grant, Cond.instanceMethod yX3_grant, Cond.selects RX3 yX3_grant yX3_grant, Cond.code yX3_grant cX3_grant 6 (some .int), Cond.methodLink RX3 59 yX3_needSquare, Cond.static yX3_needSquare, Cond.code yX3_needSquare cX3_needSquare 3 none, Cond.classLink RX3 73 "java/lang/IllegalArgumentException", Cond.initialized "java/lang/IllegalArgumentException", Cond.methodLink RX3 245 yX3_isSquare, Cond.static yX3_isSquare] [583, 584, 585, 586, 587, 102, 103, 105, 106, 107, 108, 109, 110, 111, 112, 125, 126, 127, 128, 129, 130, 82] (by decide +kernel) (by decide +kernel)))
set_option maxRecDepth 100000 in
theorem zz_lands_refused_6 : GoodIn wsL_lands wsL_refused_r6 := goodIn_r _ [83, 131, 132, 133, 134, 19, 135, 136, 137, 138, 139, 140, 141, 142, 18, 34, 143, 45, 46, 47, 10, 11, 37, 51] (by decide +kernel) (by decide +kernel)
set_option maxRecDepth 100000 in
theorem zz_lands_refused_7 : GoodIn wsL_lands wsL_refused_r7 := goodIn_r _ [52, 53, 54, 55, 56, 57, 58, 59, 144, 145, 146, 147, 148, 149, 150, 151, 152, 153, 154, 155, 156, 61, 62, 63] (by decide +kernel) (by decide +kernel)
set_option maxRecDepth 100000 in
theorem zz_lands_refused_8 : GoodIn wsL_lands wsL_refused_r8 := goodIn_r _ [38, 64, 65, 66, 67, 68, 69, 70, 71, 74, 75, 76, 77, 36, 78, 79, 80, 81, 84, 85, 86, 87, 40, 41] (by decide +kernel) (by decide +kernel)
set_option maxRecDepth 100000 in
theorem zz_lands_refused_9 : GoodIn wsL_lands wsL_refused_r9 := goodIn_r _ [42, 88, 157, 158, 159, 160, 161, 162, 163, 164, 165, 166, 167, 168, 169, 170, 171, 172, 173, 174, 175, 176, 177, 178] (by decide +kernel) (by decide +kernel)
set_option maxRecDepth 100000 in
theorem zz_lands_refused_10 : GoodIn wsL_lands wsL_refused_r10 := goodIn_r _ [179, 180, 181, 182, 183, 184, 185, 186, 187, 188, 189, 190, 191, 192, 193, 194, 195, 196, 197, 198, 199, 200, 201, 202] (by decide +kernel) (by decide +kernel)
set_option maxRecDepth 100000 in
theorem zz_lands_refused_11 : GoodIn wsL_lands wsL_refused_r11 := goodIn_r _ [203, 204, 205, 206, 207, 208, 209, 210, 211, 212, 213, 214, 215, 216, 217, 218, 219, 223, 224, 225, 226, 227, 228, 229] (by decide +kernel) (by decide +kernel)
set_option maxRecDepth 100000 in
theorem zz_lands_refused_12 : GoodIn wsL_lands wsL_refused_r12 := goodIn_r _ [230, 231, 232, 233, 234, 235, 236, 237, 238, 239, 240, 241, 242, 243, 244, 245, 246, 247, 248, 249, 250, 251, 24, 23] (by decide +kernel) (by decide +kernel)
set_option maxRecDepth 100000 in
theorem zz_lands_refused_13 : GoodIn wsL_lands wsL_refused_r13 := goodIn_r _ [252, 253, 254, 255, 28, 256, 257, 258, 259, 260, 261, 262, 27, 263, 95, 264, 265, 266, 267, 268, 269, 270, 271, 96] (by decide +kernel) (by decide +kernel)
set_option maxRecDepth 100000 in
theorem zz_lands_refused_14 : GoodIn wsL_lands wsL_refused_r14 := goodIn_r _ [272, 273, 274, 275, 101, 276, 277, 278, 279, 97, 280, 281, 282, 283, 98, 284, 285, 286, 287, 99, 288, 289, 290, 291] (by decide +kernel) (by decide +kernel)
set_option maxRecDepth 100000 in
theorem zz_lands_refused_15 : GoodIn wsL_lands wsL_refused_r15 := goodIn_r _ [292, 293, 294, 295, 100, 296, 297, 298, 299, 300, 301, 302, 303, 304, 305, 306, 307, 308, 309, 310, 311, 312, 313, 314] (by decide +kernel) (by decide +kernel)
set_option maxRecDepth 100000 in
theorem zz_lands_refused_16 : GoodIn wsL_lands wsL_refused_r16 := goodIn_r _ [315, 316, 317, 318, 319, 320, 321, 322, 323, 324, 325, 326, 327, 328, 329, 330, 331, 332, 333, 334, 335, 336, 337, 338] (by decide +kernel) (by decide +kernel)
set_option maxRecDepth 100000 in
theorem zz_lands_refused_17 : GoodIn wsL_lands wsL_refused_r17 := goodIn_r _ [339, 345, 346, 347, 348, 349, 350, 351, 352, 353, 354, 355, 356, 357, 358, 359, 360, 361, 362, 363, 364, 365, 366, 367] (by decide +kernel) (by decide +kernel)
set_option maxRecDepth 100000 in
theorem zz_lands_refused_18 : GoodIn wsL_lands wsL_refused_r18 := goodIn_r _ [368, 369, 370, 371, 372, 21, 373, 374, 375, 380, 381, 382, 383, 384, 385, 386, 400, 401, 402, 403, 404, 405, 406, 407] (by decide +kernel) (by decide +kernel)
set_option maxRecDepth 100000 in
theorem zz_lands_refused_19 : GoodIn wsL_lands wsL_refused_r19 := goodIn_r _ [408, 409, 410, 411, 412, 413, 414, 415, 420, 421, 422, 423, 424, 425, 426, 427, 428, 429, 430, 431, 432, 433, 434, 435] (by decide +kernel) (by decide +kernel)
set_option maxRecDepth 100000 in
theorem zz_lands_refused_20 : GoodIn wsL_lands wsL_refused_r20 := goodIn_r _ [436, 437, 438, 439, 440, 441, 442, 443, 444, 445, 446, 447, 448, 449, 450, 451, 452, 453, 454, 455, 456, 457, 458, 459] (by decide +kernel) (by decide +kernel)
set_option maxRecDepth 100000 in
theorem zz_lands_refused_21 : GoodIn wsL_lands wsL_refused_r21 := goodIn_r _ [460, 461, 462, 463, 464, 465, 466, 467, 468, 469, 470, 471, 472, 473, 474, 475, 476, 477, 478, 479, 484, 485, 486, 487] (by decide +kernel) (by decide +kernel)
set_option maxRecDepth 100000 in
theorem zz_lands_refused_22 : GoodIn wsL_lands wsL_refused_r22 := goodIn_r _ [488, 489, 490, 491, 492, 493, 494, 495, 496, 497, 498, 499, 17, 500, 501, 502, 503, 588, 589, 590, 528, 529, 530, 531] (by decide +kernel) (by decide +kernel)
set_option maxRecDepth 100000 in
theorem zz_lands_refused_23 : GoodIn wsL_lands wsL_refused_r23 := goodIn_r _ [515, 516, 517, 518, 519, 532, 533, 534, 535, 511, 512, 513, 514, 520, 521, 522, 523, 524, 525, 526, 527] (by decide +kernel) (by decide +kernel)
set_option maxRecDepth 100000 in
theorem zz_lands_refused_wsX30 : GoodIn wsL_lands wsX30 := goodIn_r _ [591, 592, 593, 594, 595, 596, 597, 598, 599] (by decide +kernel) (by decide +kernel)
set_option maxRecDepth 100000 in
theorem zz_lands_refused_wsX20 : GoodIn wsL_lands wsX20 := goodIn_r _ [600, 601, 602, 603, 604, 605, 606] (by decide +kernel) (by decide +kernel)
set_option maxRecDepth 100000 in
theorem zz_lands_refused_wsX10 : GoodIn wsL_lands wsX10 := goodIn_r _ [614, 615, 616, 617, 618, 619, 620, 621] (by decide +kernel) (by decide +kernel)
set_option maxRecDepth 100000 in
theorem zz_lands_refused_wsX00 : GoodIn wsL_lands wsX00 := goodIn_r _ [607, 608, 609, 610, 611, 612, 613] (by decide +kernel) (by decide +kernel)
set_option maxRecDepth 100000 in
theorem ggL_lands_L_refused : GoodIn wsL_lands wsL_refused := goodIn_ca (goodIn_ca (goodIn_ca (goodIn_c1 zz_lands_refused_0 (goodIn_app (goodIn_app (goodIn_app (goodIn_app (goodIn_app zz_lands_refused_1 (goodIn_app zz_lands_refused_2 (goodIn_app zz_lands_refused_3 (goodIn_app zz_lands_refused_4 (goodIn_app zz_lands_refused_5 (goodIn_app zz_lands_refused_6 (goodIn_app zz_lands_refused_7 (goodIn_app zz_lands_refused_8 (goodIn_app zz_lands_refused_9 (goodIn_app zz_lands_refused_10 (goodIn_app zz_lands_refused_11 (goodIn_app zz_lands_refused_12 (goodIn_app zz_lands_refused_13 (goodIn_app zz_lands_refused_14 (goodIn_app zz_lands_refused_15 (goodIn_app zz_lands_refused_16 (goodIn_app zz_lands_refused_17 (goodIn_app zz_lands_refused_18 (goodIn_app zz_lands_refused_19 (goodIn_app zz_lands_refused_20 (goodIn_app zz_lands_refused_21 (goodIn_app zz_lands_refused_22 zz_lands_refused_23)))))))))))))))))))))) zz_lands_refused_wsX30) zz_lands_refused_wsX20) zz_lands_refused_wsX10) zz_lands_refused_wsX00)) (goodIn_sub (fun _ h => List.mem_cons_of_mem _ (List.mem_append_left _ (List.mem_append_left _ (List.mem_append_right _ h)))) (by decide +kernel))) (goodIn_sub (fun _ h => List.mem_cons_of_mem _ (List.mem_append_left _ (List.mem_append_right _ h))) (by decide +kernel))) (goodIn_sub (fun _ h => List.mem_cons_of_mem _ (List.mem_append_right _ h)) (by decide +kernel))
set_option maxRecDepth 100000 in
theorem ggL_lands_L_call : GoodIn wsL_lands wsL_call := goodIn_t ggL_lands_L_refused (goodIn_t ggL_refused_L_refusesOne ggL_refusesOne_L_call)
set_option maxRecDepth 100000 in
theorem ggL_lands_X3_init : GoodIn wsL_lands wsX3_init := goodIn_r _ [8, 9, 10, 11, 12, 13, 14, 15, 16, 17, 18, 19, 20, 21, 22, 23, 24, 25, 26, 27, 28, 29, 30, 31, 32, 33, 34, 35, 36, 37, 38, 39, 40, 41, 42, 43, 44, 45, 46, 47, 48, 49, 50, 51, 52, 53, 54, 55, 56, 57, 58, 59, 60, 61, 62, 63, 64, 65, 66, 67, 68, 69, 70, 71, 72, 3, 73, 74, 75, 76, 77, 78, 79, 80, 81, 82, 83, 84, 85, 86, 87, 88, 89, 90, 91, 92, 93, 94, 95, 96, 97, 98, 99, 100, 101, 600, 601, 602, 603, 604, 605, 606, 591, 592, 593, 594, 595, 596, 597, 598, 599, 607, 608, 609, 610, 611, 612, 613, 614, 615, 616, 617, 618, 619, 620, 621] (by decide +kernel) (by decide +kernel)
set_option maxRecDepth 100000 in
theorem ggL_lands_X3_plots : GoodIn wsL_lands wsX3_plots := goodIn_r _ [507, 15, 376, 377, 378, 14, 379, 43, 591, 592, 593, 594, 595, 596, 597, 598, 599, 600, 601, 602, 603, 604, 605, 606] (by decide +kernel) (by decide +kernel)
set_option maxRecDepth 100000 in
theorem ggL_lands_L_is : GoodIn wsL_lands wsL_is := goodIn_ca (goodIn_r _ [510, 511, 512, 513, 3, 514, 15, 515, 516, 517, 518, 116, 117, 519, 196, 197, 14, 198, 43, 191, 192, 193, 194, 40, 195, 520, 521, 522, 523, 199, 200, 201, 202, 41, 524, 525, 526, 527, 203, 204, 205, 206, 42, 528, 529, 530, 531, 532, 533, 534, 535, 39, 404, 405, 406, 407, 113, 114, 115, 118, 72, 73, 190, 69, 70, 71, 38, 591, 592, 593, 594, 595, 596, 597, 598, 599, 600, 601, 602, 603, 604, 605, 606] (by decide +kernel) (by decide +kernel)) (goodIn_sub (fun _ h => List.mem_cons_of_mem _ (List.mem_append_left _ (List.mem_append_left _ (List.mem_append_right _ h)))) (by decide +kernel))
set_option maxRecDepth 100000 in
theorem ggL_lands_X3_coinsOf : GoodIn wsL_lands wsX3_coinsOf := goodIn_t ggL_lands_L_call (goodIn_t ggL_call_L_owned ggL_owned_X3_coinsOf)
set_option maxRecDepth 100000 in
theorem ggL_lands_L_fences : GoodIn wsL_lands wsL_fences := goodIn_ca (goodIn_r _ [538, 436, 437, 438, 3, 439, 15, 119, 120, 121, 116, 117, 122, 123, 124, 440, 441, 442, 14, 443, 43, 39, 40, 41, 42, 444, 445, 446, 447, 448, 449, 450, 451, 36, 88, 89, 90, 35, 91, 48, 72, 73, 452, 453, 454, 455, 16, 456, 457, 458, 459, 218, 460, 461, 462, 463, 492, 493, 494, 495, 591, 592, 593, 594, 595, 596, 597, 598, 599, 600, 601, 602, 603, 604, 605, 606, 614, 615, 616, 617, 618, 619, 620, 621] (by decide +kernel) (by decide +kernel)) (goodIn_sub (fun _ h => List.mem_cons_of_mem _ (List.mem_append_left _ (List.mem_append_left _ (List.mem_append_right _ h)))) (by decide +kernel))
set_option maxRecDepth 100000 in
theorem ggL_lands_X3_meanHeight : GoodIn wsL_lands wsX3_meanHeight := goodIn_r _ [542, 16, 543, 544, 545, 546, 35, 547, 49, 591, 592, 593, 594, 595, 596, 597, 598, 599, 614, 615, 616, 617, 618, 619, 620, 621] (by decide +kernel) (by decide +kernel)
set_option maxRecDepth 100000 in
theorem ggL_lands_X3_largestPlotOf : GoodIn wsL_lands wsX3_largestPlotOf := goodIn_t ggL_lands_L_call (goodIn_t ggL_call_L_owned ggL_owned_X3_largestPlotOf)
set_option maxRecDepth 100000 in
theorem ggL_lands_X3_collectTaxes : GoodIn wsL_lands wsX3_collectTaxes := goodIn_t ggL_lands_L_call ggL_call_X3_collectTaxes
set_option maxRecDepth 100000 in
theorem ggL_lands_X3_grant : GoodIn wsL_lands wsX3_grant := goodIn_t ggL_lands_L_call ggL_call_X3_grant
set_option maxRecDepth 100000 in
theorem ggL_lands_X3_plotsOf : GoodIn wsL_lands wsX3_plotsOf := goodIn_t ggL_lands_L_call (goodIn_t ggL_call_L_owned ggL_owned_X3_plotsOf)
set_option maxRecDepth 100000 in
theorem ggL_lands_X3_areaByPlots : GoodIn wsL_lands wsX3_areaByPlots := goodIn_t ggL_lands_L_call (goodIn_t ggL_call_L_owned ggL_owned_X3_areaByPlots)
set_option maxRecDepth 100000 in
theorem ggL_lands_X3_areaByCells : GoodIn wsL_lands wsX3_areaByCells := goodIn_t ggL_lands_L_call (goodIn_t ggL_call_L_owned ggL_owned_X3_areaByCells)
set_option maxRecDepth 100000 in
theorem ggL_lands_X3_fenceBetween : GoodIn wsL_lands wsX3_fenceBetween := goodIn_t ggL_lands_L_call (goodIn_t ggL_call_L_owned ggL_owned_X3_fenceBetween)
set_option maxRecDepth 100000 in
theorem ggL_lands_X3_firstToLose : GoodIn wsL_lands wsX3_firstToLose := goodIn_t ggL_lands_L_call (goodIn_t ggL_call_L_owned ggL_owned_X3_firstToLose)
set_option maxRecDepth 100000 in
theorem ggL_lands_X3_plotPriceAt : GoodIn wsL_lands wsX3_plotPriceAt := goodIn_t ggL_lands_L_call (goodIn_t ggL_call_L_cell ggL_cell_X3_plotPriceAt)
set_option maxRecDepth 100000 in
theorem ggL_lands_X3_buyPlot : GoodIn wsL_lands wsX3_buyPlot := goodIn_t ggL_lands_L_call ggL_call_X3_buyPlot
set_option maxRecDepth 100000 in
theorem ggL_lands_X3_buySquare : GoodIn wsL_lands wsX3_buySquare := goodIn_t ggL_lands_L_call ggL_call_X3_buySquare
set_option maxRecDepth 100000 in
theorem ggL_lands_X3_sales : GoodIn wsL_lands wsX3_sales := goodIn_r _ [567, 16, 591, 592, 593, 594, 595, 596, 597, 598, 599, 614, 615, 616, 617, 618, 619, 620, 621] (by decide +kernel) (by decide +kernel)
set_option maxRecDepth 100000 in
theorem ggL_lands_X3_raise : GoodIn wsL_lands wsX3_raise := goodIn_t ggL_lands_L_call ggL_call_X3_raise
set_option maxRecDepth 100000 in
theorem ggL_lands_X3_lowCells : GoodIn wsL_lands wsX3_lowCells := goodIn_t ggL_lands_L_call (goodIn_t ggL_call_L_owned ggL_owned_X3_lowCells)
set_option maxRecDepth 100000 in
theorem ggL_lands_X3_plotsIfFlooded : GoodIn wsL_lands wsX3_plotsIfFlooded := goodIn_t ggL_lands_L_call ggL_call_X3_plotsIfFlooded
set_option maxRecDepth 100000 in
theorem ggL_lands_X3_keep : GoodIn wsL_lands wsX3_keep := goodIn_t ggL_lands_L_call ggL_call_X3_keep
set_option maxRecDepth 100000 in
theorem ggL_lands_X3_flood : GoodIn wsL_lands wsX3_flood := goodIn_t ggL_lands_L_call ggL_call_X3_flood
set_option maxRecDepth 100000 in
theorem ggL_lands_X3_floods : GoodIn wsL_lands wsX3_floods := goodIn_r _ [571, 16, 591, 592, 593, 594, 595, 596, 597, 598, 599, 614, 615, 616, 617, 618, 619, 620, 621] (by decide +kernel) (by decide +kernel)
set_option maxRecDepth 100000 in
theorem ggL_lands_X3_ownerAt : GoodIn wsL_lands wsX3_ownerAt := goodIn_t ggL_lands_L_call (goodIn_t ggL_call_L_cell ggL_cell_X3_ownerAt)
set_option maxRecDepth 100000 in
theorem ggL_lands_X3_plotSizeAt : GoodIn wsL_lands wsX3_plotSizeAt := goodIn_t ggL_lands_L_call (goodIn_t ggL_call_L_cell ggL_cell_X3_plotSizeAt)
set_option maxRecDepth 100000 in
theorem ggL_lands_X3_setTax : GoodIn wsL_lands wsX3_setTax := goodIn_t ggL_lands_L_call ggL_call_X3_setTax
set_option maxRecDepth 100000 in
theorem ggL_lands_X3_lossesIfTaxed : GoodIn wsL_lands wsX3_lossesIfTaxed := goodIn_t ggL_lands_L_call (goodIn_t ggL_call_L_owned ggL_owned_X3_lossesIfTaxed)
set_option maxRecDepth 100000 in
theorem ggL_lands_X3_setPrice : GoodIn wsL_lands wsX3_setPrice := goodIn_t ggL_lands_L_call ggL_call_X3_setPrice
set_option maxRecDepth 100000 in
theorem ggL_lands_X3_plotRankAt : GoodIn wsL_lands wsX3_plotRankAt := goodIn_t ggL_lands_L_call (goodIn_t ggL_call_L_cell ggL_cell_X3_plotRankAt)
set_option maxRecDepth 100000 in
theorem ggL_lands_X3_plotsLost : GoodIn wsL_lands wsX3_plotsLost := goodIn_r _ [575, 16, 591, 592, 593, 594, 595, 596, 597, 598, 599, 614, 615, 616, 617, 618, 619, 620, 621] (by decide +kernel) (by decide +kernel)
set_option maxRecDepth 100000 in
theorem ggL_lands_X3_goBack : GoodIn wsL_lands wsX3_goBack := goodIn_t ggL_lands_L_call ggL_call_X3_goBack
set_option maxRecDepth 100000 in
theorem ggL_lands_X3_tax : GoodIn wsL_lands wsX3_tax := goodIn_r _ [563, 16, 591, 592, 593, 594, 595, 596, 597, 598, 599, 614, 615, 616, 617, 618, 619, 620, 621] (by decide +kernel) (by decide +kernel)
set_option maxRecDepth 100000 in
theorem gL_lands_X3_init : GoodIn wsL_lands (wsX3_init) := ggL_lands_X3_init
set_option maxRecDepth 100000 in
theorem gL_lands_L_call : GoodIn wsL_lands (va_wsS RL 150 yL_call wsL_call) := goodIn_app (goodIn_of _ (by decide +kernel)) ggL_lands_L_call
set_option maxRecDepth 100000 in
theorem gL_lands_X3_plots : GoodIn wsL_lands (wsV RL 128 RX3 yX3_plots wsX3_plots) := goodIn_app (goodIn_of _ (by decide +kernel)) ggL_lands_X3_plots
set_option maxRecDepth 100000 in
theorem gL_lands_L_is : GoodIn wsL_lands (va_wsS RL 182 yL_is wsL_is) := goodIn_app (goodIn_of _ (by decide +kernel)) ggL_lands_L_is
set_option maxRecDepth 100000 in
theorem gL_lands_X3_coinsOf : GoodIn wsL_lands (wsV RL 112 RX3 yX3_coinsOf wsX3_coinsOf) := goodIn_app (goodIn_of _ (by decide +kernel)) ggL_lands_X3_coinsOf
set_option maxRecDepth 100000 in
theorem gL_lands_L_fences : GoodIn wsL_lands (va_wsS RL 186 yL_fences wsL_fences) := goodIn_app (goodIn_of _ (by decide +kernel)) ggL_lands_L_fences
set_option maxRecDepth 100000 in
theorem gL_lands_X3_meanHeight : GoodIn wsL_lands (wsV RL 190 RX3 yX3_meanHeight wsX3_meanHeight) := goodIn_app (goodIn_of _ (by decide +kernel)) ggL_lands_X3_meanHeight
set_option maxRecDepth 100000 in
theorem gL_lands_X3_largestPlotOf : GoodIn wsL_lands (wsV RL 106 RX3 yX3_largestPlotOf wsX3_largestPlotOf) := goodIn_app (goodIn_of _ (by decide +kernel)) ggL_lands_X3_largestPlotOf
set_option maxRecDepth 100000 in
theorem gL_lands_X3_collectTaxes : GoodIn wsL_lands (wsV RL 63 RX3 yX3_collectTaxes wsX3_collectTaxes) := goodIn_app (goodIn_of _ (by decide +kernel)) ggL_lands_X3_collectTaxes
set_option maxRecDepth 100000 in
theorem gL_lands_L_refused : GoodIn wsL_lands (va_wsS RL 196 yL_refused wsL_refused) := goodIn_app (goodIn_of _ (by decide +kernel)) ggL_lands_L_refused
set_option maxRecDepth 100000 in
theorem gL_lands_X3_grant : GoodIn wsL_lands (wsV RL 9 RX3 yX3_grant wsX3_grant) := goodIn_app (goodIn_of _ (by decide +kernel)) ggL_lands_X3_grant
set_option maxRecDepth 100000 in
theorem gL_lands_X3_plotsOf : GoodIn wsL_lands (wsV RL 88 RX3 yX3_plotsOf wsX3_plotsOf) := goodIn_app (goodIn_of _ (by decide +kernel)) ggL_lands_X3_plotsOf
set_option maxRecDepth 100000 in
theorem gL_lands_X3_areaByPlots : GoodIn wsL_lands (wsV RL 91 RX3 yX3_areaByPlots wsX3_areaByPlots) := goodIn_app (goodIn_of _ (by decide +kernel)) ggL_lands_X3_areaByPlots
set_option maxRecDepth 100000 in
theorem gL_lands_X3_areaByCells : GoodIn wsL_lands (wsV RL 94 RX3 yX3_areaByCells wsX3_areaByCells) := goodIn_app (goodIn_of _ (by decide +kernel)) ggL_lands_X3_areaByCells
set_option maxRecDepth 100000 in
theorem gL_lands_X3_fenceBetween : GoodIn wsL_lands (wsV RL 103 RX3 yX3_fenceBetween wsX3_fenceBetween) := goodIn_app (goodIn_of _ (by decide +kernel)) ggL_lands_X3_fenceBetween
set_option maxRecDepth 100000 in
theorem gL_lands_X3_firstToLose : GoodIn wsL_lands (wsV RL 109 RX3 yX3_firstToLose wsX3_firstToLose) := goodIn_app (goodIn_of _ (by decide +kernel)) ggL_lands_X3_firstToLose
set_option maxRecDepth 100000 in
theorem gL_lands_X3_plotPriceAt : GoodIn wsL_lands (wsV RL 85 RX3 yX3_plotPriceAt wsX3_plotPriceAt) := goodIn_app (goodIn_of _ (by decide +kernel)) ggL_lands_X3_plotPriceAt
set_option maxRecDepth 100000 in
theorem gL_lands_X3_buyPlot : GoodIn wsL_lands (wsV RL 22 RX3 yX3_buyPlot wsX3_buyPlot) := goodIn_app (goodIn_of _ (by decide +kernel)) ggL_lands_X3_buyPlot
set_option maxRecDepth 100000 in
theorem gL_lands_X3_buySquare : GoodIn wsL_lands (wsV RL 26 RX3 yX3_buySquare wsX3_buySquare) := goodIn_app (goodIn_of _ (by decide +kernel)) ggL_lands_X3_buySquare
set_option maxRecDepth 100000 in
theorem gL_lands_X3_sales : GoodIn wsL_lands (wsV RL 137 RX3 yX3_sales wsX3_sales) := goodIn_app (goodIn_of _ (by decide +kernel)) ggL_lands_X3_sales
set_option maxRecDepth 100000 in
theorem gL_lands_X3_raise : GoodIn wsL_lands (wsV RL 15 RX3 yX3_raise wsX3_raise) := goodIn_app (goodIn_of _ (by decide +kernel)) ggL_lands_X3_raise
set_option maxRecDepth 100000 in
theorem gL_lands_X3_lowCells : GoodIn wsL_lands (wsV RL 115 RX3 yX3_lowCells wsX3_lowCells) := goodIn_app (goodIn_of _ (by decide +kernel)) ggL_lands_X3_lowCells
set_option maxRecDepth 100000 in
theorem gL_lands_X3_plotsIfFlooded : GoodIn wsL_lands (wsV RL 60 RX3 yX3_plotsIfFlooded wsX3_plotsIfFlooded) := goodIn_app (goodIn_of _ (by decide +kernel)) ggL_lands_X3_plotsIfFlooded
set_option maxRecDepth 100000 in
theorem gL_lands_X3_keep : GoodIn wsL_lands (wsV RL 45 RX3 yX3_keep wsX3_keep) := goodIn_app (goodIn_of _ (by decide +kernel)) ggL_lands_X3_keep
set_option maxRecDepth 100000 in
theorem gL_lands_X3_flood : GoodIn wsL_lands (wsV RL 18 RX3 yX3_flood wsX3_flood) := goodIn_app (goodIn_of _ (by decide +kernel)) ggL_lands_X3_flood
set_option maxRecDepth 100000 in
theorem gL_lands_X3_floods : GoodIn wsL_lands (wsV RL 140 RX3 yX3_floods wsX3_floods) := goodIn_app (goodIn_of _ (by decide +kernel)) ggL_lands_X3_floods
set_option maxRecDepth 100000 in
theorem gL_lands_X3_ownerAt : GoodIn wsL_lands (wsV RL 72 RX3 yX3_ownerAt wsX3_ownerAt) := goodIn_app (goodIn_of _ (by decide +kernel)) ggL_lands_X3_ownerAt
set_option maxRecDepth 100000 in
theorem gL_lands_X3_plotSizeAt : GoodIn wsL_lands (wsV RL 79 RX3 yX3_plotSizeAt wsX3_plotSizeAt) := goodIn_app (goodIn_of _ (by decide +kernel)) ggL_lands_X3_plotSizeAt
set_option maxRecDepth 100000 in
theorem gL_lands_X3_setTax : GoodIn wsL_lands (wsV RL 32 RX3 yX3_setTax wsX3_setTax) := goodIn_app (goodIn_of _ (by decide +kernel)) ggL_lands_X3_setTax
set_option maxRecDepth 100000 in
theorem gL_lands_X3_lossesIfTaxed : GoodIn wsL_lands (wsV RL 118 RX3 yX3_lossesIfTaxed wsX3_lossesIfTaxed) := goodIn_app (goodIn_of _ (by decide +kernel)) ggL_lands_X3_lossesIfTaxed
set_option maxRecDepth 100000 in
theorem gL_lands_X3_setPrice : GoodIn wsL_lands (wsV RL 29 RX3 yX3_setPrice wsX3_setPrice) := goodIn_app (goodIn_of _ (by decide +kernel)) ggL_lands_X3_setPrice
set_option maxRecDepth 100000 in
theorem gL_lands_X3_plotRankAt : GoodIn wsL_lands (wsV RL 82 RX3 yX3_plotRankAt wsX3_plotRankAt) := goodIn_app (goodIn_of _ (by decide +kernel)) ggL_lands_X3_plotRankAt
set_option maxRecDepth 100000 in
theorem gL_lands_X3_plotsLost : GoodIn wsL_lands (wsV RL 143 RX3 yX3_plotsLost wsX3_plotsLost) := goodIn_app (goodIn_of _ (by decide +kernel)) ggL_lands_X3_plotsLost
set_option maxRecDepth 100000 in
theorem gL_lands_X3_goBack : GoodIn wsL_lands (wsV RL 48 RX3 yX3_goBack wsX3_goBack) := goodIn_app (goodIn_of _ (by decide +kernel)) ggL_lands_X3_goBack
set_option maxRecDepth 100000 in
theorem gL_lands_X3_tax : GoodIn wsL_lands (wsV RL 134 RX3 yX3_tax wsX3_tax) := goodIn_app (goodIn_of _ (by decide +kernel)) ggL_lands_X3_tax
