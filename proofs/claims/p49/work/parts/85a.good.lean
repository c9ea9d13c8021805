theorem goodIn_h {big : List Cond} {c : Cond} (i : Nat) (h : big[i]? = some c) (g : ([c].all goodWord) = true) : GoodIn big [c] := goodIn_sub (fun w hw => by rw [List.mem_singleton.mp hw]; exact List.mem_of_getElem? h) g
set_option maxRecDepth 100000 in
theorem ggL_refusesOne_L_far : GoodIn wsL_refusesOne wsL_far := goodIn_r _ [5, 1, 6] (by decide +kernel) (by decide +kernel)
set_option maxRecDepth 100000 in
theorem zz_refusesOne_call_0 : GoodIn wsL_refusesOne [.codeWith yL_call cL_call 7 (some .int) [(0, 227, 228, 66), (0, 227, 234, 68), (0, 227, 240, 70)]] := goodIn_r [.codeWith yL_call cL_call 7 (some .int) [(0, 227, 228, 66), (0, 227, 234, 68), (0, 227, 240, 70)]] [9] (by decide +kernel) (by decide +kernel)
set_option maxRecDepth 100000 in
theorem zz_refusesOne_call_1 : GoodIn wsL_refusesOne wsL_call_r1 := goodIn_r _ [10, 11, 12, 13, 14, 15, 16, 17, 18, 19, 20, 21, 22, 23, 24, 25, 26, 27, 28, 29, 30, 31, 32, 33] (by decide +kernel) (by decide +kernel)
set_option maxRecDepth 100000 in
theorem zz_refusesOne_call_2 : GoodIn wsL_refusesOne wsL_call_r2 := goodIn_r _ [34, 35, 36, 37, 38, 39, 40, 41, 42, 43, 44, 45, 46, 47, 48, 49, 50, 51, 52, 53, 54, 55, 56, 57] (by decide +kernel) (by decide +kernel)
set_option maxRecDepth 100000 in
theorem zz_refusesOne_call_3 : GoodIn wsL_refusesOne wsL_call_r3 := goodIn_r _ [58, 59, 60, 61, 62, 63, 64, 65, 66, 67, 68, 69, 70, 71, 72, 73, 74, 75, 76, 77, 78, 79, 80, 81] (by decide +kernel) (by decide +kernel)
set_option maxRecDepth 100000 in
theorem zz_refusesOne_call_4 : GoodIn wsL_refusesOne wsL_call_r4 := goodIn_r _ [82, 83, 84, 85, 86, 87, 88, 89, 90, 91, 92, 93, 94, 95, 96, 97, 98, 99, 100, 101, 102, 103, 104, 105] (by decide +kernel) (by decide +kernel)
set_option maxRecDepth 100000 in
theorem zz_refusesOne_call_5 : GoodIn wsL_refusesOne wsL_call_r5 := goodIn_r _ [106, 107, 108, 109, 110, 111, 112, 113, 114, 115, 116, 117, 118, 119, 120, 121, 122, 123, 124, 125, 126, 127, 128, 129] (by decide +kernel) (by decide +kernel)
set_option maxRecDepth 100000 in
theorem zz_refusesOne_call_6 : GoodIn wsL_refusesOne wsL_call_r6 := goodIn_r _ [130, 131, 132, 133, 134, 135, 136, 137, 138, 139, 140, 141, 142, 143, 144, 145, 146, 147, 148, 149, 150, 151, 152, 153] (by decide +kernel) (by decide +kernel)
set_option maxRecDepth 100000 in
theorem zz_refusesOne_call_7 : GoodIn wsL_refusesOne wsL_call_r7 := goodIn_r _ [154, 155, 156, 157, 158, 159, 160, 161, 162, 163, 164, 165, 166, 167, 168, 169, 170, 171, 172, 173, 174, 175, 176, 177] (by decide +kernel) (by decide +kernel)
set_option maxRecDepth 100000 in
theorem zz_refusesOne_call_8 : GoodIn wsL_refusesOne wsL_call_r8 := goodIn_r _ [178, 179, 180, 181, 182, 183, 184, 185, 186, 187, 188, 189, 190, 191, 192, 193, 194, 195, 196, 197, 198, 199, 200, 201] (by decide +kernel) (by decide +kernel)
set_option maxRecDepth 100000 in
theorem zz_refusesOne_call_9 : GoodIn wsL_refusesOne wsL_call_r9 := goodIn_r _ [202, 203, 204, 205, 206, 207, 208, 209, 210, 211, 212, 213, 214, 215, 216, 217, 218, 219, 220, 221, 222, 223, 224, 225] (by decide +kernel) (by decide +kernel)
set_option maxRecDepth 100000 in
theorem zz_refusesOne_call_10 : GoodIn wsL_refusesOne wsL_call_r10 := goodIn_r _ [226, 227, 228, 229, 230, 231, 232, 233, 234, 235, 236, 237, 238, 239, 240, 241, 242, 243, 244, 245, 246, 247, 248, 249] (by decide +kernel) (by decide +kernel)
set_option maxRecDepth 100000 in
theorem zz_refusesOne_call_11 : GoodIn wsL_refusesOne wsL_call_r11 := goodIn_r _ [250, 251, 252, 253, 254, 255, 256, 257, 258, 259, 260, 261, 262, 263, 264, 265, 266, 267, 268, 269, 270, 271, 272, 273] (by decide +kernel) (by decide +kernel)
set_option maxRecDepth 100000 in
theorem zz_refusesOne_call_12 : GoodIn wsL_refusesOne wsL_call_r12 := goodIn_r _ [274, 275, 276, 277, 278, 279, 280, 281, 282, 283, 284, 285, 286, 287, 288, 289, 290, 291, 292, 293, 294, 295, 296, 297] (by decide +kernel) (by decide +kernel)
set_option maxRecDepth 100000 in
theorem zz_refusesOne_call_13 : GoodIn wsL_refusesOne wsL_call_r13 := goodIn_r _ [298, 299, 300, 301, 302, 303, 304, 305, 306, 307, 308, 309, 310, 311, 312, 313, 314, 315, 316, 317, 318, 319, 320, 321] (by decide +kernel) (by decide +kernel)
set_option maxRecDepth 100000 in
theorem zz_refusesOne_call_14 : GoodIn wsL_refusesOne wsL_call_r14 := goodIn_r _ [322, 323, 324, 325, 326, 327, 328, 329, 330, 331, 332, 333, 334, 335, 336, 337, 338, 339, 340, 341, 342, 343, 344, 345] (by decide +kernel) (by decide +kernel)
set_option maxRecDepth 100000 in
theorem zz_refusesOne_call_15 : GoodIn wsL_refusesOne wsL_call_r15 := goodIn_r _ [346, 347, 348, 349, 350, 351, 352, 353, 354, 355, 356, 357, 358, 359, 360, 361, 362, 363, 364, 365, 366, 4, 367, 368] (by decide +kernel) (by decide +kernel)
set_option maxRecDepth 100000 in
theorem zz_refusesOne_call_16 : GoodIn wsL_refusesOne wsL_call_r16 := goodIn_r _ [369, 370, 371, 372, 373, 374, 375, 376, 377, 378, 379, 380, 381, 382, 383, 384, 385, 386, 387, 388, 389, 390, 391, 392] (by decide +kernel) (by decide +kernel)
set_option maxRecDepth 100000 in
theorem zz_refusesOne_call_17 : GoodIn wsL_refusesOne wsL_call_r17 := goodIn_r _ [393, 394, 395, 396, 397, 398, 399, 400, 401, 402, 403, 404, 405, 406, 407, 408, 409, 410, 411, 412, 413, 414, 415, 416] (by decide +kernel) (by decide +kernel)
set_option maxRecDepth 100000 in
theorem zz_refusesOne_call_18 : GoodIn wsL_refusesOne wsL_call_r18 := goodIn_r _ [417, 418, 419, 420, 421, 422, 423, 424, 425, 426, 427, 428, 429, 430, 431, 432, 433, 434, 435, 436, 437, 438, 439, 440] (by decide +kernel) (by decide +kernel)
set_option maxRecDepth 100000 in
theorem zz_refusesOne_call_19 : GoodIn wsL_refusesOne wsL_call_r19 := goodIn_r _ [441, 442, 443, 444, 445, 446, 447, 448, 449, 450, 451, 452, 453, 454, 455, 456, 457, 458, 459, 460, 461, 462, 463, 464] (by decide +kernel) (by decide +kernel)
set_option maxRecDepth 100000 in
theorem zz_refusesOne_call_20 : GoodIn wsL_refusesOne wsL_call_r20 := goodIn_r _ [465, 466, 467, 468, 469, 470, 471, 472, 473, 474, 475, 476, 477, 478, 479, 480, 481, 482, 483, 484, 485] (by decide +kernel) (by decide +kernel)
set_option maxRecDepth 100000 in
theorem zz_refusesOne_call_wsX30 : GoodIn wsL_refusesOne wsX30 := goodIn_r _ [518, 519, 520, 521, 522, 523, 524, 525, 526] (by decide +kernel) (by decide +kernel)
set_option maxRecDepth 100000 in
theorem zz_refusesOne_call_wsX10 : GoodIn wsL_refusesOne wsX10 := goodIn_r _ [527, 528, 529, 530, 531, 532, 533, 534] (by decide +kernel) (by decide +kernel)
set_option maxRecDepth 100000 in
theorem zz_refusesOne_call_wsX20 : GoodIn wsL_refusesOne wsX20 := goodIn_r _ [535, 536, 537, 538, 539, 540, 541] (by decide +kernel) (by decide +kernel)
set_option maxRecDepth 100000 in
theorem zz_refusesOne_call_wsX00 : GoodIn wsL_refusesOne wsX00 := goodIn_r _ [542, 543, 544, 545, 546, 547, 548] (by decide +kernel) (by decide +kernel)
set_option maxRecDepth 100000 in
theorem ggL_refusesOne_L_call : GoodIn wsL_refusesOne wsL_call := goodIn_ca (goodIn_ca (goodIn_ca (goodIn_c1 zz_refusesOne_call_0 (goodIn_app (goodIn_app (goodIn_app (goodIn_app (goodIn_app zz_refusesOne_call_1 (goodIn_app zz_refusesOne_call_2 (goodIn_app zz_refusesOne_call_3 (goodIn_app zz_refusesOne_call_4 (goodIn_app zz_refusesOne_call_5 (goodIn_app zz_refusesOne_call_6 (goodIn_app zz_refusesOne_call_7 (goodIn_app zz_refusesOne_call_8 (goodIn_app zz_refusesOne_call_9 (goodIn_app zz_refusesOne_call_10 (goodIn_app zz_refusesOne_call_11 (goodIn_app zz_refusesOne_call_12 (goodIn_app zz_refusesOne_call_13 (goodIn_app zz_refusesOne_call_14 (goodIn_app zz_refusesOne_call_15 (goodIn_app zz_refusesOne_call_16 (goodIn_app zz_refusesOne_call_17 (goodIn_app zz_refusesOne_call_18 (goodIn_app zz_refusesOne_call_19 zz_refusesOne_call_20))))))))))))))))))) zz_refusesOne_call_wsX30) zz_refusesOne_call_wsX10) zz_refusesOne_call_wsX20) zz_refusesOne_call_wsX00)) (goodIn_sub (fun _ h => List.mem_cons_of_mem _ (List.mem_append_left _ (List.mem_append_left _ (List.mem_append_right _ h)))) (by decide +kernel))) (goodIn_sub (fun _ h => List.mem_cons_of_mem _ (List.mem_append_left _ (List.mem_append_right _ h))) (by decide +kernel))) (goodIn_sub (fun _ h => List.mem_cons_of_mem _ (List.mem_append_right _ h)) (by decide +kernel))
set_option maxRecDepth 100000 in
theorem ggL_refusesOne_X3_plots : GoodIn wsL_refusesOne wsX3_plots := goodIn_r _ [489, 19, 357, 358, 359, 93, 360, 96, 518, 519, 520, 521, 522, 523, 524, 525, 526, 535, 536, 537, 538, 539, 540, 541] (by decide +kernel) (by decide +kernel)
set_option maxRecDepth 100000 in
theorem ggL_refusesOne_L_plot : GoodIn wsL_refusesOne wsL_plot := goodIn_ca (goodIn_r _ [492, 10, 493, 494, 495, 16, 496, 19, 497, 498, 499, 500, 23, 24, 501, 165, 166, 93, 167, 96, 502, 503, 504, 505, 118, 164, 506, 507, 508, 509, 160, 161, 162, 163, 119, 510, 511, 512, 513, 168, 169, 170, 171, 120, 514, 515, 516, 517, 172, 173, 174, 175, 121, 518, 519, 520, 521, 522, 523, 524, 525, 526, 535, 536, 537, 538, 539, 540, 541] (by decide +kernel) (by decide +kernel)) (goodIn_sub (fun _ h => List.mem_cons_of_mem _ (List.mem_append_left _ (List.mem_append_left _ (List.mem_append_right _ h)))) (by decide +kernel))
set_option maxRecDepth 100000 in
theorem gL_refusesOne_L_far : GoodIn wsL_refusesOne (va_wsS RL 147 yL_far wsL_far) := goodIn_app (goodIn_of _ (by decide +kernel)) ggL_refusesOne_L_far
set_option maxRecDepth 100000 in
theorem gL_refusesOne_L_call : GoodIn wsL_refusesOne (va_wsS RL 150 yL_call wsL_call) := goodIn_app (goodIn_of _ (by decide +kernel)) ggL_refusesOne_L_call
set_option maxRecDepth 100000 in
theorem gL_refusesOne_X3_plots : GoodIn wsL_refusesOne (wsV RL 128 RX3 yX3_plots wsX3_plots) := goodIn_app (goodIn_of _ (by decide +kernel)) ggL_refusesOne_X3_plots
set_option maxRecDepth 100000 in
theorem gL_refusesOne_L_plot : GoodIn wsL_refusesOne (va_wsS RL 154 yL_plot wsL_plot) := goodIn_app (goodIn_of _ (by decide +kernel)) ggL_refusesOne_L_plot
set_option maxRecDepth 100000 in
theorem ggL_refused_L_seen : GoodIn wsL_refused wsL_seen := goodIn_ca (goodIn_r _ [4, 5, 6, 7, 8, 9, 10, 11, 12, 13, 14, 15, 16, 17, 18, 19, 20, 21, 22, 23, 24, 25, 26, 27, 28, 29, 30, 31, 32, 33, 34, 35, 36, 37, 38, 39, 40, 41, 42, 43, 44, 45, 46, 47, 48, 49, 50, 51, 52, 53, 54, 55, 56, 57, 58, 59, 60, 61, 62, 63, 64, 65, 66, 67, 68, 69, 70, 71, 72, 73, 74, 75, 76, 77, 78, 79, 80, 81, 82, 83, 84, 85, 86, 87, 88, 89, 90, 550, 551, 552, 553, 554, 555, 556, 557, 558, 559, 560, 561, 562, 563, 564, 565, 566, 567, 568, 569, 570, 571, 572, 573] (by decide +kernel) (by decide +kernel)) (goodIn_sub (fun _ h => List.mem_cons_of_mem _ (List.mem_append_left _ (List.mem_append_left _ (List.mem_append_right _ h)))) (by decide +kernel))
set_option maxRecDepth 100000 in
theorem ggL_refused_X3_savedStates : GoodIn wsL_refused wsX3_savedStates := goodIn_r _ [94, 95, 550, 551, 552, 553, 554, 555, 556, 557, 558] (by decide +kernel) (by decide +kernel)
set_option maxRecDepth 100000 in
theorem zz_refused_refusesOne_0 : GoodIn wsL_refused [.code yL_refusesOne cL_refusesOne 8 (some .boolean)] := goodIn_h 98 rfl (by decide +kernel)
set_option maxRecDepth 100000 in
theorem zz_refused_refusesOne_1 : GoodIn wsL_refused wsL_refusesOne_r1 := goodIn_r _ [99, 100, 101, 3, 102, 103, 104, 105, 106, 107, 108, 109, 110, 111, 112, 10, 113, 23, 12, 40, 41, 42, 43, 44] (by decide +kernel) (by decide +kernel)
set_option maxRecDepth 100000 in
theorem zz_refused_refusesOne_2 : GoodIn wsL_refused wsL_refusesOne_r2 := goodIn_r _ [45, 46, 47, 67, 68, 69, 70, 71, 72, 114, 115, 116, 117, 118, 119, 120, 121, 122, 123, 124, 125, 95, 126, 127] (by decide +kernel) (by decide +kernel)
set_option maxRecDepth 100000 in
theorem zz_refused_refusesOne_3 : GoodIn wsL_refused wsL_refusesOne_r3 := goodIn_r _ [128, 129, 130, 131, 132, 133, 134, 135, 136, 51, 137, 138, 139, 140, 141, 142, 143, 53, 62, 77, 144, 145, 146, 147] (by decide +kernel) (by decide +kernel)
set_option maxRecDepth 100000 in
theorem zz_refused_refusesOne_4 : GoodIn wsL_refused wsL_refusesOne_r4 := goodIn_r _ [148, 149, 150, 151, 152, 153, 154, 155, 156, 157, 158, 159, 160, 161, 162, 163, 164, 165, 166, 167, 16, 168, 169, 18] (by decide +kernel) (by decide +kernel)
set_option maxRecDepth 100000 in
theorem zz_refused_refusesOne_5 : GoodIn wsL_refused wsL_refusesOne_r5 := goodIn_r _ [170, 171, 172, 173, 174, 175, 176, 177, 178, 179, 180, 181, 182, 183, 184, 185, 186, 187, 188, 189, 190, 86, 191, 192] (by decide +kernel) (by decide +kernel)
set_option maxRecDepth 100000 in
theorem zz_refused_refusesOne_6 : GoodIn wsL_refused wsL_refusesOne_r6 := goodIn_r _ [193, 194, 49, 50, 52, 195, 196, 197, 198, 199, 200, 201, 202, 203, 204, 205, 206, 207, 208, 209, 210, 211, 212, 213] (by decide +kernel) (by decide +kernel)
set_option maxRecDepth 100000 in
theorem zz_refused_refusesOne_7 : GoodIn wsL_refused wsL_refusesOne_r7 := goodIn_r _ [214, 215, 216, 217, 218, 219, 220, 221, 222, 223, 224, 225, 226, 227, 228, 229, 230, 231, 232, 233, 234, 235, 236, 237] (by decide +kernel) (by decide +kernel)
set_option maxRecDepth 100000 in
theorem zz_refused_refusesOne_8 : GoodIn wsL_refused wsL_refusesOne_r8 := goodIn_r _ [238, 239, 240, 241, 242, 243, 244, 245, 246, 247, 248, 249, 250, 251, 252, 253, 254, 255, 256, 257, 74, 75, 76, 258] (by decide +kernel) (by decide +kernel)
set_option maxRecDepth 100000 in
theorem zz_refused_refusesOne_9 : GoodIn wsL_refused wsL_refusesOne_r9 := goodIn_r _ [259, 260, 261, 262, 263, 264, 265, 266, 267, 268, 269, 270, 271, 272, 273, 274, 275, 276, 277, 278, 279, 280, 281, 282] (by decide +kernel) (by decide +kernel)
set_option maxRecDepth 100000 in
theorem zz_refused_refusesOne_10 : GoodIn wsL_refused wsL_refusesOne_r10 := goodIn_r _ [283, 284, 285, 286, 287, 288, 289, 290, 291, 292, 293, 294, 295, 296, 297, 298, 299, 300, 301, 302, 303, 304, 305, 306] (by decide +kernel) (by decide +kernel)
set_option maxRecDepth 100000 in
theorem zz_refused_refusesOne_11 : GoodIn wsL_refused wsL_refusesOne_r11 := goodIn_r _ [307, 308, 309, 310, 311, 312, 313, 314, 315, 316, 317, 318, 319, 320, 321, 322, 323, 324, 325, 326, 327, 328, 329, 330] (by decide +kernel) (by decide +kernel)
set_option maxRecDepth 100000 in
theorem zz_refused_refusesOne_12 : GoodIn wsL_refused wsL_refusesOne_r12 := goodIn_r _ [331, 332, 333, 334, 335, 336, 337, 338, 339, 340, 341, 342, 343, 344, 345, 346, 347, 348, 349, 350, 351, 352, 353, 354] (by decide +kernel) (by decide +kernel)
set_option maxRecDepth 100000 in
theorem zz_refused_refusesOne_13 : GoodIn wsL_refused wsL_refusesOne_r13 := goodIn_r _ [355, 356, 357, 358, 359, 360, 361, 362, 363, 364, 365, 366, 367, 368, 369, 370, 371, 372, 373, 374, 375, 376, 377, 378] (by decide +kernel) (by decide +kernel)
set_option maxRecDepth 100000 in
theorem zz_refused_refusesOne_14 : GoodIn wsL_refused wsL_refusesOne_r14 := goodIn_r _ [379, 380, 381, 382, 383, 384, 385, 82, 83, 84, 85, 73, 386, 387, 388, 389, 390, 391, 392, 393, 394, 395, 396, 397] (by decide +kernel) (by decide +kernel)
set_option maxRecDepth 100000 in
theorem zz_refused_refusesOne_15 : GoodIn wsL_refused wsL_refusesOne_r15 := goodIn_r _ [398, 399, 400, 401, 402, 403, 404, 405, 406, 407, 408, 409, 410, 411, 412, 413, 414, 415, 416, 417, 13, 14, 15, 17] (by decide +kernel) (by decide +kernel)
set_option maxRecDepth 100000 in
theorem zz_refused_refusesOne_16 : GoodIn wsL_refused wsL_refusesOne_r16 := goodIn_r _ [418, 419, 420, 421, 422, 423, 424, 36, 37, 38, 39, 48, 54, 55, 56, 57, 58, 59, 60, 61, 425, 426, 427, 428] (by decide +kernel) (by decide +kernel)
set_option maxRecDepth 100000 in
theorem zz_refused_refusesOne_17 : GoodIn wsL_refused wsL_refusesOne_r17 := goodIn_r _ [429, 430, 431, 432, 433, 434, 435, 436, 437, 438, 439, 440, 78, 79, 80, 81, 441, 442, 443, 444, 445, 446, 447, 448] (by decide +kernel) (by decide +kernel)
set_option maxRecDepth 100000 in
theorem zz_refused_refusesOne_18 : GoodIn wsL_refused wsL_refusesOne_r18 := goodIn_r _ [449, 450, 451, 452, 453, 454, 455, 456, 457, 458, 459, 460, 461, 462, 463, 464, 465, 466, 467, 468, 469, 470, 471, 472] (by decide +kernel) (by decide +kernel)
set_option maxRecDepth 100000 in
theorem zz_refused_refusesOne_19 : GoodIn wsL_refused wsL_refusesOne_r19 := goodIn_r _ [473, 474, 475, 476, 477, 478, 479, 480, 481, 482, 483, 484, 485, 486, 487, 488, 489, 490, 491, 492, 493, 494, 495, 496] (by decide +kernel) (by decide +kernel)
set_option maxRecDepth 100000 in
theorem zz_refused_refusesOne_20 : GoodIn wsL_refused wsL_refusesOne_r20 := goodIn_r _ [497, 498, 499, 500, 63, 64, 65, 66, 501, 502, 503, 504, 505, 506, 507, 508, 509, 510, 511, 512, 513, 514, 515, 516] (by decide +kernel) (by decide +kernel)
set_option maxRecDepth 100000 in
theorem zz_refused_refusesOne_21 : GoodIn wsL_refused wsL_refusesOne_r21 := goodIn_r _ [517, 518, 519, 520, 521, 7, 8, 9, 11, 522, 523, 524, 525, 526, 527, 528, 529, 530, 531, 532, 533, 534, 535, 536] (by decide +kernel) (by decide +kernel)
set_option maxRecDepth 100000 in
theorem zz_refused_refusesOne_22 : GoodIn wsL_refused wsL_refusesOne_r22 := goodIn_r _ [537, 538, 539, 540, 541, 542, 543, 544, 545, 546, 547, 548, 549] (by decide +kernel) (by decide +kernel)
set_option maxRecDepth 100000 in
theorem zz_refused_refusesOne_wsX30 : GoodIn wsL_refused wsX30 := goodIn_r _ [550, 551, 552, 553, 554, 555, 556, 557, 558] (by decide +kernel) (by decide +kernel)
set_option maxRecDepth 100000 in
theorem zz_refused_refusesOne_wsX10 : GoodIn wsL_refused wsX10 := goodIn_r _ [566, 567, 568, 569, 570, 571, 572, 573] (by decide +kernel) (by decide +kernel)
set_option maxRecDepth 100000 in
theorem zz_refused_refusesOne_wsX20 : GoodIn wsL_refused wsX20 := goodIn_r _ [559, 560, 561, 562, 563, 564, 565] (by decide +kernel) (by decide +kernel)
set_option maxRecDepth 100000 in
theorem zz_refused_refusesOne_wsX00 : GoodIn wsL_refused wsX00 := goodIn_r _ [574, 575, 576, 577, 578, 579, 580] (by decide +kernel) (by decide +kernel)
set_option maxRecDepth 100000 in
theorem ggL_refused_L_refusesOne : GoodIn wsL_refused wsL_refusesOne := goodIn_ca (goodIn_ca (goodIn_ca (goodIn_c1 zz_refused_refusesOne_0 (goodIn_app (goodIn_app (goodIn_app (goodIn_app (goodIn_app zz_refused_refusesOne_1 (goodIn_app zz_refused_refusesOne_2 (goodIn_app zz_refused_refusesOne_3 (goodIn_app zz_refused_refusesOne_4 (goodIn_app zz_refused_refusesOne_5 (goodIn_app zz_refused_refusesOne_6 (goodIn_app zz_refused_refusesOne_7 (goodIn_app zz_refused_refusesOne_8 (goodIn_app zz_refused_refusesOne_9 (goodIn_app zz_refused_refusesOne_10 (goodIn_app zz_refused_refusesOne_11 (goodIn_app zz_refused_refusesOne_12 (goodIn_app zz_refused_refusesOne_13 (goodIn_app zz_refused_refusesOne_14 (goodIn_app zz_refused_refusesOne_15 (goodIn_app zz_refused_refusesOne_16 (goodIn_app zz_refused_refusesOne_17 (goodIn_app zz_refused_refusesOne_18 (goodIn_app zz_refused_refusesOne_19 (goodIn_app zz_refused_refusesOne_20 (goodIn_app zz_refused_refusesOne_21 zz_refused_refusesOne_22))))))))))))))))))))) zz_refused_refusesOne_wsX30) zz_refused_refusesOne_wsX10) zz_refused_refusesOne_wsX20) zz_refused_refusesOne_wsX00)) (goodIn_sub (fun _ h => List.mem_cons_of_mem _ (List.mem_append_left _ (List.mem_append_left _ (List.mem_append_right _ h)))) (by decide +kernel))) (goodIn_sub (fun _ h => List.mem_cons_of_mem _ (List.mem_append_left _ (List.mem_append_right _ h))) (by decide +kernel))) (goodIn_sub (fun _ h => List.mem_cons_of_mem _ (List.mem_append_right _ h)) (by decide +kernel))
set_option maxRecDepth 100000 in
theorem gL_refused_L_seen : GoodIn wsL_refused (va_wsS RL 170 yL_seen wsL_seen) := goodIn_app (goodIn_of _ (by decide +kernel)) ggL_refused_L_seen
set_option maxRecDepth 100000 in
theorem gL_refused_X3_savedStates : GoodIn wsL_refused (wsV RL 174 RX3 yX3_savedStates wsX3_savedStates) := goodIn_app (goodIn_of _ (by decide +kernel)) ggL_refused_X3_savedStates
set_option maxRecDepth 100000 in
theorem gL_refused_L_refusesOne : GoodIn wsL_refused (va_wsS RL 177 yL_refusesOne wsL_refusesOne) := goodIn_app (goodIn_of _ (by decide +kernel)) ggL_refused_L_refusesOne
