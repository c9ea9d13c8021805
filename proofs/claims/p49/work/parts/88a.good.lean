set_option maxRecDepth 100000 in
theorem zz_law_lands_0 : GoodIn wsL_law [.code yL_lands cL_lands 1 (some .boolean)] := goodIn_h 7 rfl (by decide +kernel)
set_option maxRecDepth 100000 in
theorem zz_law_lands_1 : GoodIn wsL_law wsL_lands_r1 := goodIn_r _ [0, 1, 2, 8, 9, 10, 11, 12, 13, 14, 15, 16, 17, 18, 19, 20, 21, 22, 23, 24, 25, 26, 27, 28] (by decide +kernel) (by decide +kernel)
set_option maxRecDepth 100000 in
theorem zz_law_lands_2 : GoodIn wsL_law wsL_lands_r2 := goodIn_r _ [29, 30, 31, 32, 33, 34, 35, 36, 37, 38, 39, 40, 41, 42, 43, 44, 45, 46, 47, 48, 49, 50, 51, 52] (by decide +kernel) (by decide +kernel)
set_option maxRecDepth 100000 in
theorem zz_law_lands_3 : GoodIn wsL_law wsL_lands_r3 := goodIn_r _ [53, 54, 55, 56, 57, 58, 59, 60, 61, 62, 63, 64, 65, 66, 67, 68, 69, 70, 71, 72, 73, 74, 75, 76] (by decide +kernel) (by decide +kernel)
set_option maxRecDepth 100000 in
theorem zz_law_lands_4 : GoodIn wsL_law wsL_lands_r4 := goodIn_r _ [77, 78, 79, 80, 81, 82, 83, 84, 85, 86, 87, 88, 89, 90, 91, 92, 93, 94, 95, 96, 97, 98, 99, 100] (by decide +kernel) (by decide +kernel)
set_option maxRecDepth 100000 in
theorem zz_law_lands_5 : GoodIn wsL_law wsL_lands_r5 := goodIn_r _ [101, 102, 103, 104, 105, 106, 107, 6, 108, 109, 110, 111, 112, 113, 114, 115, 116, 117, 118, 119, 120, 121, 122, 123] (by decide +kernel) (by decide +kernel)
set_option maxRecDepth 100000 in
theorem zz_law_lands_6 : GoodIn wsL_law wsL_lands_r6 := goodIn_r _ [124, 125, 126, 127, 128, 129, 130, 131, 132, 133, 134, 135, 136, 137, 138, 139, 140, 141, 142, 143, 144, 145, 146, 147] (by decide +kernel) (by decide +kernel)
set_option maxRecDepth 100000 in
theorem zz_law_lands_7 : GoodIn wsL_law wsL_lands_r7 := goodIn_r _ [148, 149, 150, 151, 152, 153, 154, 155, 156, 157, 158, 159, 160, 161, 162, 163, 164, 165, 166, 167, 168, 169, 170, 171] (by decide +kernel) (by decide +kernel)
set_option maxRecDepth 100000 in
theorem zz_law_lands_8 : GoodIn wsL_law wsL_lands_r8 := goodIn_r _ [172, 173, 174, 175, 176, 177, 178, 179, 180, 181, 182, 183, 184, 185, 186, 187, 188, 189, 190, 191, 192, 193, 194, 195] (by decide +kernel) (by decide +kernel)
set_option maxRecDepth 100000 in
theorem zz_law_lands_9 : GoodIn wsL_law wsL_lands_r9 := goodIn_r _ [196, 197, 198, 199, 200, 201, 202, 203, 204, 205, 206, 207, 208, 209, 210, 211, 212, 213, 214, 215, 216, 217, 218, 219] (by decide +kernel) (by decide +kernel)
set_option maxRecDepth 100000 in
theorem zz_law_lands_10 : GoodIn wsL_law wsL_lands_r10 := goodIn_r _ [220, 221, 222, 223, 224, 225, 226, 227, 228, 229, 230, 231, 232, 233, 234, 235, 236, 237, 238, 239, 240, 241, 242, 243] (by decide +kernel) (by decide +kernel)
set_option maxRecDepth 100000 in
theorem zz_law_lands_11 : GoodIn wsL_law wsL_lands_r11 := goodIn_r _ [244, 245, 246, 247, 248, 249, 250, 251, 252, 253, 254, 255, 256, 257, 258, 259, 260, 261, 262, 263, 264, 265, 266, 267] (by decide +kernel) (by decide +kernel)
set_option maxRecDepth 100000 in
theorem zz_law_lands_12 : GoodIn wsL_law wsL_lands_r12 := goodIn_r _ [268, 269, 270, 271, 272, 273, 274, 275, 276, 277, 278, 279, 280, 281, 282, 283, 284, 285, 286, 287, 288, 289, 290, 291] (by decide +kernel) (by decide +kernel)
set_option maxRecDepth 100000 in
theorem zz_law_lands_13 : GoodIn wsL_law wsL_lands_r13 := goodIn_r _ [292, 293, 294, 295, 296, 297, 298, 299, 300, 301, 302, 303, 304, 305, 306, 307, 308, 309, 310, 311, 312, 313, 314, 315] (by decide +kernel) (by decide +kernel)
set_option maxRecDepth 100000 in
theorem zz_law_lands_14 : GoodIn wsL_law wsL_lands_r14 := goodIn_r _ [316, 317, 318, 319, 320, 321, 322, 323, 324, 325, 326, 327, 328, 329, 330, 331, 332, 333, 334, 335, 336, 337, 338, 339] (by decide +kernel) (by decide +kernel)
set_option maxRecDepth 100000 in
theorem zz_law_lands_15 : GoodIn wsL_law wsL_lands_r15 := goodIn_r _ [340, 341, 342, 343, 344, 345, 346, 347, 348, 349, 350, 351, 352, 353, 354, 355, 356, 357, 358, 359, 360, 361, 362, 363] (by decide +kernel) (by decide +kernel)
set_option maxRecDepth 100000 in
theorem zz_law_lands_16 : GoodIn wsL_law wsL_lands_r16 := goodIn_r _ [364, 365, 366, 367, 368, 369, 370, 371, 372, 373, 374, 375, 376, 377, 378, 379, 380, 381, 382, 383, 384, 385, 386, 387] (by decide +kernel) (by decide +kernel)
set_option maxRecDepth 100000 in
theorem zz_law_lands_17 : GoodIn wsL_law wsL_lands_r17 := goodIn_r _ [388, 389, 390, 391, 392, 393, 394, 395, 396, 397, 398, 399, 400, 401, 402, 403, 404, 405, 406, 407, 408, 409, 410, 411] (by decide +kernel) (by decide +kernel)
set_option maxRecDepth 100000 in
theorem zz_law_lands_18 : GoodIn wsL_law wsL_lands_r18 := goodIn_r _ [412, 413, 414, 415, 416, 417, 418, 419, 420, 421, 422, 423, 424, 425, 426, 427, 428, 429, 430, 431, 432, 433, 434, 435] (by decide +kernel) (by decide +kernel)
set_option maxRecDepth 100000 in
theorem zz_law_lands_19 : GoodIn wsL_law wsL_lands_r19 := goodIn_r _ [436, 437, 438, 439, 440, 441, 442, 443, 444, 445, 446, 447, 448, 449, 450, 451, 452, 453, 454, 455, 456, 457, 458, 459] (by decide +kernel) (by decide +kernel)
set_option maxRecDepth 100000 in
theorem zz_law_lands_20 : GoodIn wsL_law wsL_lands_r20 := goodIn_r _ [460, 461, 462, 463, 464, 465, 466, 467, 468, 469, 470, 471, 472, 473, 474, 475, 476, 477, 478, 479, 480, 481, 482, 483] (by decide +kernel) (by decide +kernel)
set_option maxRecDepth 100000 in
theorem zz_law_lands_21 : GoodIn wsL_law wsL_lands_r21 := goodIn_r _ [484, 485, 486, 487, 488, 489, 490, 491, 492, 493, 494, 495, 496, 497, 498, 499, 500, 501, 502, 503, 504, 505, 506, 507] (by decide +kernel) (by decide +kernel)
set_option maxRecDepth 100000 in
theorem zz_law_lands_22 : GoodIn wsL_law wsL_lands_r22 := goodIn_r _ [508, 509, 510, 511, 512, 513, 514, 515, 516, 517, 518, 519, 520, 521, 522, 523, 524, 525, 526, 527, 528, 529, 530, 531] (by decide +kernel) (by decide +kernel)
set_option maxRecDepth 100000 in
theorem zz_law_lands_23 : GoodIn wsL_law wsL_lands_r23 := goodIn_r _ [532, 533, 534, 535, 536, 537, 538, 539, 540, 541, 542, 543, 544, 545, 546, 547, 548, 549, 550, 551, 552, 553, 554, 555] (by decide +kernel) (by decide +kernel)
set_option maxRecDepth 100000 in
theorem zz_law_lands_24 : GoodIn wsL_law wsL_lands_r24 := goodIn_r _ [556, 557, 558, 559, 560, 561, 562, 563, 564, 565, 566, 567, 568, 569, 570, 571, 572, 573, 574, 575, 576, 577, 578, 579] (by decide +kernel) (by decide +kernel)
set_option maxRecDepth 100000 in
theorem zz_law_lands_25 : GoodIn wsL_law wsL_lands_r25 := goodIn_app (goodIn_r [Cond.instanceMethod yX3_savedStates, Cond.selects RX3 yX3_savedStates yX3_savedStates, Cond.code yX3_savedStates cX3_savedStates 1 (some .int), Cond.methodLink RL 177 yL_refusesOne, Cond.static yL_refusesOne] [580, 581, 582, 583, 584] (by decide +kernel) (by decide +kernel)) (goodIn_app (goodIn_h 585 rfl (by decide +kernel)) (goodIn_r [Cond.constant RL 146 (-2147483648), Cond.methodLink RL 147 yL_far, Cond.static yL_far, Cond.code yL_far cL_far 3 (some .int), Cond.constant RL 7 (2147483647), Cond.methodLink RL 154 yL_plot, Cond.static yL_plot, Cond.codeWith yL_plot cL_plot 3 (some .int) [(0, 23, 24, 66)]] [586, 587, 588, 589, 590, 591, 592, 593] (by decide +kernel) (by decide +kernel)))
set_option maxRecDepth 100000 in
theorem zz_law_lands_wsX30 : GoodIn wsL_law wsX30 := goodIn_r _ [648, 649, 650, 651, 652, 653, 654, 655, 656] (by decide +kernel) (by decide +kernel)
set_option maxRecDepth 100000 in
theorem zz_law_lands_wsX20 : GoodIn wsL_law wsX20 := goodIn_r _ [657, 658, 659, 660, 661, 662, 663] (by decide +kernel) (by decide +kernel)
set_option maxRecDepth 100000 in
theorem zz_law_lands_wsX00 : GoodIn wsL_law wsX00 := goodIn_r _ [664, 665, 666, 667, 668, 669, 670] (by decide +kernel) (by decide +kernel)
set_option maxRecDepth 100000 in
theorem zz_law_lands_wsX10 : GoodIn wsL_law wsX10 := goodIn_r _ [671, 672, 673, 674, 675, 676, 677, 678] (by decide +kernel) (by decide +kernel)
set_option maxRecDepth 100000 in
theorem ggL_law_L_lands : GoodIn wsL_law wsL_lands := goodIn_ca (goodIn_ca (goodIn_ca (goodIn_c1 zz_law_lands_0 (goodIn_app (goodIn_app (goodIn_app (goodIn_app (goodIn_app zz_law_lands_1 (goodIn_app zz_law_lands_2 (goodIn_app zz_law_lands_3 (goodIn_app zz_law_lands_4 (goodIn_app zz_law_lands_5 (goodIn_app zz_law_lands_6 (goodIn_app zz_law_lands_7 (goodIn_app zz_law_lands_8 (goodIn_app zz_law_lands_9 (goodIn_app zz_law_lands_10 (goodIn_app zz_law_lands_11 (goodIn_app zz_law_lands_12 (goodIn_app zz_law_lands_13 (goodIn_app zz_law_lands_14 (goodIn_app zz_law_lands_15 (goodIn_app zz_law_lands_16 (goodIn_app zz_law_lands_17 (goodIn_app zz_law_lands_18 (goodIn_app zz_law_lands_19 (goodIn_app zz_law_lands_20 (goodIn_app zz_law_lands_21 (goodIn_app zz_law_lands_22 (goodIn_app zz_law_lands_23 (goodIn_app zz_law_lands_24 zz_law_lands_25)))))))))))))))))))))))) zz_law_lands_wsX30) zz_law_lands_wsX20) zz_law_lands_wsX00) zz_law_lands_wsX10)) (goodIn_sub (fun _ h => List.mem_append_left _ (List.mem_append_left _ (List.mem_append_right _ h))) (by decide +kernel))) (goodIn_sub (fun _ h => List.mem_append_left _ (List.mem_append_right _ h)) (by decide +kernel))) (goodIn_sub (fun _ h => List.mem_append_right _ h) (by decide +kernel))
