set_option maxRecDepth 100000 in
theorem zz_law_texts_0 : GoodIn wsL_law [.code yL_texts cL_texts 2 (some .boolean)] := goodIn_h 596 rfl (by decide +kernel)
set_option maxRecDepth 100000 in
theorem zz_law_texts_1 : GoodIn wsL_law wsL_texts_r1 := goodIn_r _ [0, 1, 2, 597, 598, 599, 600, 601, 602, 603, 604, 605, 606, 607, 608, 609, 610, 611, 612, 613, 614, 615, 616, 617] (by decide +kernel) (by decide +kernel)
set_option maxRecDepth 100000 in
theorem zz_law_texts_2 : GoodIn wsL_law wsL_texts_r2 := goodIn_r _ [618, 619, 620, 621, 8, 10, 11, 12, 13, 14, 15, 16, 17, 18, 19, 20, 21, 22, 23, 24, 25, 26, 27, 28] (by decide +kernel) (by decide +kernel)
set_option maxRecDepth 100000 in
theorem zz_law_texts_3 : GoodIn wsL_law wsL_texts_r3 := goodIn_r _ [29, 30, 31, 32, 33, 34, 35, 36, 37, 38, 39, 40, 41, 42, 43, 44, 45, 46, 47, 48, 49, 50, 51, 52] (by decide +kernel) (by decide +kernel)
set_option maxRecDepth 100000 in
theorem zz_law_texts_4 : GoodIn wsL_law wsL_texts_r4 := goodIn_r _ [53, 54, 55, 56, 57, 58, 59, 60, 61, 62, 63, 64, 65, 66, 67, 68, 69, 70, 71, 72, 73, 74, 75, 76] (by decide +kernel) (by decide +kernel)
set_option maxRecDepth 100000 in
theorem zz_law_texts_5 : GoodIn wsL_law wsL_texts_r5 := goodIn_r _ [77, 78, 79, 80, 81, 82, 83, 84, 85, 86, 87, 88, 89, 90, 91, 92, 93, 94, 95, 96, 97, 98, 99, 100] (by decide +kernel) (by decide +kernel)
set_option maxRecDepth 100000 in
theorem zz_law_texts_6 : GoodIn wsL_law wsL_texts_r6 := goodIn_r _ [101, 102, 103, 104, 105, 622, 623, 6, 624, 625, 626, 627, 628, 629, 630, 631, 632, 251, 252, 253, 254, 131, 132, 214] (by decide +kernel) (by decide +kernel)
set_option maxRecDepth 100000 in
theorem zz_law_texts_7 : GoodIn wsL_law wsL_texts_r7 := goodIn_r _ [215, 633, 634, 635, 636, 259, 260, 261, 262, 263, 264, 265, 266, 267, 268, 269, 270, 271, 272, 273, 274, 275, 276, 277] (by decide +kernel) (by decide +kernel)
set_option maxRecDepth 100000 in
theorem zz_law_texts_8 : GoodIn wsL_law wsL_texts_r8 := goodIn_r _ [278, 279, 280, 281, 282, 283, 284, 285, 286, 287, 288, 289, 290, 291, 292, 293, 294, 295, 296, 297, 298, 299, 300, 301] (by decide +kernel) (by decide +kernel)
set_option maxRecDepth 100000 in
theorem zz_law_texts_9 : GoodIn wsL_law wsL_texts_r9 := goodIn_r _ [302, 303, 304, 305, 306, 255, 256, 257, 258, 307, 308, 309, 310, 134, 135, 136, 137, 138, 139, 140, 141, 142, 143, 144] (by decide +kernel) (by decide +kernel)
set_option maxRecDepth 100000 in
theorem zz_law_texts_10 : GoodIn wsL_law wsL_texts_r10 := goodIn_r _ [145, 146, 147, 148, 149, 150, 151, 152, 153, 154, 311, 312, 313, 314, 315, 316, 317, 318, 319, 320, 321, 322, 133, 155] (by decide +kernel) (by decide +kernel)
set_option maxRecDepth 100000 in
theorem zz_law_texts_11 : GoodIn wsL_law wsL_texts_r11 := goodIn_r _ [156, 157, 158, 323, 324, 325, 326, 327, 328, 329, 330, 164, 165, 166, 167, 168, 169, 170, 171, 172, 173, 174, 193, 331] (by decide +kernel) (by decide +kernel)
set_option maxRecDepth 100000 in
theorem zz_law_texts_12 : GoodIn wsL_law wsL_texts_r12 := goodIn_r _ [332, 333, 334, 194, 195, 196, 197, 198, 199, 200, 201, 202, 203, 204, 205, 206, 207, 208, 209, 216, 217, 218, 219, 220] (by decide +kernel) (by decide +kernel)
set_option maxRecDepth 100000 in
theorem zz_law_texts_13 : GoodIn wsL_law wsL_texts_r13 := goodIn_r _ [221, 222, 223, 224, 225, 126, 127, 226, 227, 228, 229, 230, 231, 232, 233, 234, 235, 236, 237, 238, 182, 183, 184, 185] (by decide +kernel) (by decide +kernel)
set_option maxRecDepth 100000 in
theorem zz_law_texts_14 : GoodIn wsL_law wsL_texts_r14 := goodIn_r _ [335, 336, 337, 338, 339, 340, 341, 342, 343, 344, 345, 346, 347, 348, 349, 350, 351, 352, 353, 354, 355, 356, 357, 358] (by decide +kernel) (by decide +kernel)
set_option maxRecDepth 100000 in
theorem zz_law_texts_15 : GoodIn wsL_law wsL_texts_r15 := goodIn_r _ [359, 360, 159, 637, 638, 639, 640, 507, 508, 509, 510, 379, 380, 381, 382, 542, 543, 544, 545, 546, 547, 548, 549, 550] (by decide +kernel) (by decide +kernel)
set_option maxRecDepth 100000 in
theorem zz_law_texts_16 : GoodIn wsL_law wsL_texts_r16 := goodIn_r _ [571, 572, 573, 574, 579, 580, 581, 582, 361, 362, 363, 364, 365, 366, 367, 368, 369, 370, 371, 106, 107, 108, 109, 110] (by decide +kernel) (by decide +kernel)
set_option maxRecDepth 100000 in
theorem zz_law_texts_17 : GoodIn wsL_law wsL_texts_r17 := goodIn_r _ [111, 112, 113, 114, 115, 116, 117, 118, 119, 120, 121, 122, 123, 124, 125, 128, 129, 130, 160, 161, 162, 163, 175, 176] (by decide +kernel) (by decide +kernel)
set_option maxRecDepth 100000 in
theorem zz_law_texts_18 : GoodIn wsL_law wsL_texts_r18 := goodIn_r _ [177, 178, 179, 180, 181, 186, 187, 188, 189, 190, 191, 192, 210, 211, 212, 213, 239, 240, 241, 242, 243, 244, 245, 246] (by decide +kernel) (by decide +kernel)
set_option maxRecDepth 100000 in
theorem zz_law_texts_19 : GoodIn wsL_law wsL_texts_r19 := goodIn_r _ [247, 248, 249, 250, 372, 373, 374, 375, 376, 377, 378, 383, 384, 385, 386, 387, 388, 389, 390, 391, 392, 393, 394, 395] (by decide +kernel) (by decide +kernel)
set_option maxRecDepth 100000 in
theorem zz_law_texts_20 : GoodIn wsL_law wsL_texts_r20 := goodIn_r _ [396, 397, 398, 399, 400, 401, 402, 403, 404, 405, 406, 407, 408, 409, 410, 411, 412, 413, 414, 415, 416, 417, 418, 419] (by decide +kernel) (by decide +kernel)
set_option maxRecDepth 100000 in
theorem zz_law_texts_21 : GoodIn wsL_law wsL_texts_r21 := goodIn_r _ [420, 421, 422, 423, 424, 425, 426, 427, 428, 429, 430, 431, 432, 433, 434, 435, 436, 437, 438, 439, 440, 441, 442, 443] (by decide +kernel) (by decide +kernel)
set_option maxRecDepth 100000 in
theorem zz_law_texts_22 : GoodIn wsL_law wsL_texts_r22 := goodIn_r _ [444, 445, 446, 447, 448, 449, 450, 451, 452, 453, 454, 455, 456, 457, 458, 459, 460, 461, 462, 463, 464, 465, 466, 467] (by decide +kernel) (by decide +kernel)
set_option maxRecDepth 100000 in
theorem zz_law_texts_23 : GoodIn wsL_law wsL_texts_r23 := goodIn_r _ [468, 469, 470, 471, 472, 473, 474, 475, 476, 477, 478, 479, 480, 481, 482, 483, 484, 485, 486, 487, 488, 489, 490, 491] (by decide +kernel) (by decide +kernel)
set_option maxRecDepth 100000 in
theorem zz_law_texts_24 : GoodIn wsL_law wsL_texts_r24 := goodIn_r _ [492, 493, 494, 495, 496, 497, 498, 499, 500, 501, 502, 503, 504, 505, 506] (by decide +kernel) (by decide +kernel)
set_option maxRecDepth 100000 in
theorem zz_law_texts_wsX30 : GoodIn wsL_law wsX30 := goodIn_r _ [648, 649, 650, 651, 652, 653, 654, 655, 656] (by decide +kernel) (by decide +kernel)
set_option maxRecDepth 100000 in
theorem zz_law_texts_wsX20 : GoodIn wsL_law wsX20 := goodIn_r _ [657, 658, 659, 660, 661, 662, 663] (by decide +kernel) (by decide +kernel)
set_option maxRecDepth 100000 in
theorem zz_law_texts_wsX00 : GoodIn wsL_law wsX00 := goodIn_r _ [664, 665, 666, 667, 668, 669, 670] (by decide +kernel) (by decide +kernel)
set_option maxRecDepth 100000 in
theorem zz_law_texts_wsX10 : GoodIn wsL_law wsX10 := goodIn_r _ [671, 672, 673, 674, 675, 676, 677, 678] (by decide +kernel) (by decide +kernel)
set_option maxRecDepth 100000 in
theorem ggL_law_L_texts : GoodIn wsL_law wsL_texts := goodIn_ca (goodIn_ca (goodIn_ca (goodIn_c1 zz_law_texts_0 (goodIn_app (goodIn_app (goodIn_app (goodIn_app (goodIn_app zz_law_texts_1 (goodIn_app zz_law_texts_2 (goodIn_app zz_law_texts_3 (goodIn_app zz_law_texts_4 (goodIn_app zz_law_texts_5 (goodIn_app zz_law_texts_6 (goodIn_app zz_law_texts_7 (goodIn_app zz_law_texts_8 (goodIn_app zz_law_texts_9 (goodIn_app zz_law_texts_10 (goodIn_app zz_law_texts_11 (goodIn_app zz_law_texts_12 (goodIn_app zz_law_texts_13 (goodIn_app zz_law_texts_14 (goodIn_app zz_law_texts_15 (goodIn_app zz_law_texts_16 (goodIn_app zz_law_texts_17 (goodIn_app zz_law_texts_18 (goodIn_app zz_law_texts_19 (goodIn_app zz_law_texts_20 (goodIn_app zz_law_texts_21 (goodIn_app zz_law_texts_22 (goodIn_app zz_law_texts_23 zz_law_texts_24))))))))))))))))))))))) zz_law_texts_wsX30) zz_law_texts_wsX20) zz_law_texts_wsX00) zz_law_texts_wsX10)) (goodIn_sub (fun _ h => List.mem_append_left _ (List.mem_append_right _ h)) (by decide +kernel))) (goodIn_sub (fun _ h => List.mem_append_right _ h) (by decide +kernel))) (goodIn_sub (fun _ h => List.mem_append_left _ (List.mem_append_left _ (List.mem_append_right _ h))) (by decide +kernel))
set_option maxRecDepth 100000 in
theorem ggL_law_L_refused : GoodIn wsL_law wsL_refused := goodIn_t ggL_law_L_lands ggL_lands_L_refused
set_option maxRecDepth 100000 in
theorem ggL_law_L_call : GoodIn wsL_law wsL_call := goodIn_t ggL_law_L_lands ggL_lands_L_call
set_option maxRecDepth 100000 in
theorem ggL_law_X3_init : GoodIn wsL_law wsX3_init := goodIn_t ggL_law_L_lands ggL_lands_X3_init
set_option maxRecDepth 100000 in
theorem ggL_law_X3_grant : GoodIn wsL_law wsX3_grant := goodIn_t ggL_law_L_call ggL_call_X3_grant
set_option maxRecDepth 100000 in
theorem ggL_law_X3_raise : GoodIn wsL_law wsX3_raise := goodIn_t ggL_law_L_call ggL_call_X3_raise
set_option maxRecDepth 100000 in
theorem ggL_law_X3_buySquare : GoodIn wsL_law wsX3_buySquare := goodIn_t ggL_law_L_call ggL_call_X3_buySquare
set_option maxRecDepth 100000 in
theorem ggL_law_X3_keep : GoodIn wsL_law wsX3_keep := goodIn_t ggL_law_L_call ggL_call_X3_keep
set_option maxRecDepth 100000 in
theorem ggL_law_L_seen : GoodIn wsL_law wsL_seen := goodIn_t ggL_law_L_lands (goodIn_t ggL_lands_L_refused ggL_refused_L_seen)
set_option maxRecDepth 100000 in
theorem ggL_law_L_drawn : GoodIn wsL_law wsL_drawn := goodIn_r _ [643, 644] (by decide +kernel) (by decide +kernel)
set_option maxRecDepth 100000 in
theorem ggL_law_L_part : GoodIn wsL_law wsL_part := goodIn_r _ [647, 590] (by decide +kernel) (by decide +kernel)
set_option maxRecDepth 100000 in
theorem ggL_law_X3_savedStates : GoodIn wsL_law wsX3_savedStates := goodIn_r _ [582, 24, 648, 649, 650, 651, 652, 653, 654, 655, 656] (by decide +kernel) (by decide +kernel)
set_option maxRecDepth 100000 in
theorem ggL_law_X3_collectTaxes : GoodIn wsL_law wsX3_collectTaxes := goodIn_t ggL_law_L_call ggL_call_X3_collectTaxes
set_option maxRecDepth 100000 in
theorem ggL_law_X3_undo : GoodIn wsL_law wsX3_undo := goodIn_t ggL_law_L_call ggL_call_X3_undo
set_option maxRecDepth 100000 in
theorem ggL_law_X3_goBack : GoodIn wsL_law wsX3_goBack := goodIn_t ggL_law_L_call ggL_call_X3_goBack
set_option maxRecDepth 100000 in
theorem gL_law_L_lands : GoodIn wsL_law (va_wsS RL 271 yL_lands wsL_lands) := goodIn_app (goodIn_of _ (by decide +kernel)) ggL_law_L_lands
set_option maxRecDepth 100000 in
theorem gL_law_L_texts : GoodIn wsL_law (va_wsS RL 275 yL_texts wsL_texts) := goodIn_app (goodIn_of _ (by decide +kernel)) ggL_law_L_texts
set_option maxRecDepth 100000 in
theorem gL_law_X3_init : GoodIn wsL_law (wsX3_init) := ggL_law_X3_init
set_option maxRecDepth 100000 in
theorem gL_law_X3_grant : GoodIn wsL_law (wsV RL 9 RX3 yX3_grant wsX3_grant) := goodIn_app (goodIn_of _ (by decide +kernel)) ggL_law_X3_grant
set_option maxRecDepth 100000 in
theorem gL_law_X3_raise : GoodIn wsL_law (wsV RL 15 RX3 yX3_raise wsX3_raise) := goodIn_app (goodIn_of _ (by decide +kernel)) ggL_law_X3_raise
set_option maxRecDepth 100000 in
theorem gL_law_X3_buySquare : GoodIn wsL_law (wsV RL 26 RX3 yX3_buySquare wsX3_buySquare) := goodIn_app (goodIn_of _ (by decide +kernel)) ggL_law_X3_buySquare
set_option maxRecDepth 100000 in
theorem gL_law_X3_keep : GoodIn wsL_law (wsV RL 45 RX3 yX3_keep wsX3_keep) := goodIn_app (goodIn_of _ (by decide +kernel)) ggL_law_X3_keep
set_option maxRecDepth 100000 in
theorem gL_law_L_seen : GoodIn wsL_law (va_wsS RL 170 yL_seen wsL_seen) := goodIn_app (goodIn_of _ (by decide +kernel)) ggL_law_L_seen
set_option maxRecDepth 100000 in
theorem gL_law_L_drawn : GoodIn wsL_law (va_wsS RL 278 yL_drawn wsL_drawn) := goodIn_app (goodIn_of _ (by decide +kernel)) ggL_law_L_drawn
set_option maxRecDepth 100000 in
theorem gL_law_L_part : GoodIn wsL_law (va_wsS RL 282 yL_part wsL_part) := goodIn_app (goodIn_of _ (by decide +kernel)) ggL_law_L_part
set_option maxRecDepth 100000 in
theorem gL_law_X3_savedStates : GoodIn wsL_law (wsV RL 174 RX3 yX3_savedStates wsX3_savedStates) := goodIn_app (goodIn_of _ (by decide +kernel)) ggL_law_X3_savedStates
set_option maxRecDepth 100000 in
theorem gL_law_L_call : GoodIn wsL_law (va_wsS RL 150 yL_call wsL_call) := goodIn_app (goodIn_of _ (by decide +kernel)) ggL_law_L_call
set_option maxRecDepth 100000 in
theorem gL_law_X3_collectTaxes : GoodIn wsL_law (wsV RL 63 RX3 yX3_collectTaxes wsX3_collectTaxes) := goodIn_app (goodIn_of _ (by decide +kernel)) ggL_law_X3_collectTaxes
set_option maxRecDepth 100000 in
theorem gL_law_L_refused : GoodIn wsL_law (va_wsS RL 196 yL_refused wsL_refused) := goodIn_app (goodIn_of _ (by decide +kernel)) ggL_law_L_refused
set_option maxRecDepth 100000 in
theorem gL_law_X3_undo : GoodIn wsL_law (wsV RL 42 RX3 yX3_undo wsX3_undo) := goodIn_app (goodIn_of _ (by decide +kernel)) ggL_law_X3_undo
set_option maxRecDepth 100000 in
theorem gL_law_X3_goBack : GoodIn wsL_law (wsV RL 48 RX3 yX3_goBack wsX3_goBack) := goodIn_app (goodIn_of _ (by decide +kernel)) ggL_law_X3_goBack
