set_option maxRecDepth 100000 in
theorem zz_texts_call_0 : GoodIn wsL_texts [.codeWith yL_call cL_call 7 (some .int) [(0, 227, 228, 66), (0, 227, 234, 68), (0, 227, 240, 70)]] := goodIn_r [.codeWith yL_call cL_call 7 (some .int) [(0, 227, 228, 66), (0, 227, 234, 68), (0, 227, 240, 70)]] [382] (by decide +kernel) (by decide +kernel)
set_option maxRecDepth 100000 in
theorem zz_texts_call_1 : GoodIn wsL_texts wsL_call_r1 := goodIn_r _ [383, 384, 385, 386, 387, 388, 3, 389, 40, 39, 390, 391, 392, 393, 394, 395, 96, 97, 396, 397, 398, 399, 294, 295] (by decide +kernel) (by decide +kernel)
set_option maxRecDepth 100000 in
theorem zz_texts_call_2 : GoodIn wsL_texts wsL_call_r2 := goodIn_r _ [400, 401, 402, 142, 143, 239, 106, 107, 206, 207, 208, 209, 44, 43, 210, 211, 212, 213, 214, 215, 216, 217, 42, 58] (by decide +kernel) (by decide +kernel)
set_option maxRecDepth 100000 in
theorem zz_texts_call_3 : GoodIn wsL_texts wsL_call_r3 := goodIn_r _ [59, 218, 69, 70, 71, 34, 35, 61, 72, 73, 74, 75, 76, 77, 78, 79, 80, 81, 82, 83, 219, 220, 221, 222] (by decide +kernel) (by decide +kernel)
set_option maxRecDepth 100000 in
theorem zz_texts_call_4 : GoodIn wsL_texts wsL_call_r4 := goodIn_r _ [223, 224, 225, 226, 240, 241, 242, 243, 339, 85, 86, 38, 87, 62, 67, 88, 89, 90, 91, 92, 93, 94, 95, 98] (by decide +kernel) (by decide +kernel)
set_option maxRecDepth 100000 in
theorem zz_texts_call_5 : GoodIn wsL_texts wsL_call_r5 := goodIn_r _ [99, 100, 101, 60, 102, 103, 104, 105, 108, 109, 110, 111, 63, 64, 65, 66, 112, 113, 114, 115, 403, 404, 405, 406] (by decide +kernel) (by decide +kernel)
set_option maxRecDepth 100000 in
theorem zz_texts_call_6 : GoodIn wsL_texts wsL_call_r6 := goodIn_r _ [252, 253, 254, 255, 256, 257, 258, 259, 260, 261, 262, 407, 408, 409, 410, 411, 412, 413, 309, 310, 311, 312, 414, 415] (by decide +kernel) (by decide +kernel)
set_option maxRecDepth 100000 in
theorem zz_texts_call_7 : GoodIn wsL_texts wsL_call_r7 := goodIn_r _ [416, 417, 418, 419, 420, 263, 268, 269, 270, 271, 272, 273, 274, 275, 276, 277, 278, 279, 280, 281, 282, 283, 421, 422] (by decide +kernel) (by decide +kernel)
set_option maxRecDepth 100000 in
theorem zz_texts_call_8 : GoodIn wsL_texts wsL_call_r8 := goodIn_r _ [423, 424, 144, 145, 284, 285, 286, 287, 288, 289, 290, 291, 292, 293, 296, 297, 298, 299, 300, 301, 302, 303, 304, 305] (by decide +kernel) (by decide +kernel)
set_option maxRecDepth 100000 in
theorem zz_texts_call_9 : GoodIn wsL_texts wsL_call_r9 := goodIn_r _ [306, 307, 308, 425, 426, 427, 428, 429, 430, 431, 432, 433, 434, 435, 436, 138, 139, 140, 141, 48, 47, 198, 199, 200] (by decide +kernel) (by decide +kernel)
set_option maxRecDepth 100000 in
theorem zz_texts_call_10 : GoodIn wsL_texts wsL_call_r10 := goodIn_r _ [201, 52, 150, 151, 152, 153, 154, 155, 156, 51, 157, 119, 158, 159, 160, 161, 162, 163, 164, 165, 120, 166, 167, 168] (by decide +kernel) (by decide +kernel)
set_option maxRecDepth 100000 in
theorem zz_texts_call_11 : GoodIn wsL_texts wsL_call_r11 := goodIn_r _ [169, 125, 170, 171, 172, 173, 121, 174, 175, 176, 177, 122, 178, 179, 180, 181, 123, 182, 183, 184, 185, 186, 187, 188] (by decide +kernel) (by decide +kernel)
set_option maxRecDepth 100000 in
theorem zz_texts_call_12 : GoodIn wsL_texts wsL_call_r12 := goodIn_r _ [189, 124, 190, 191, 192, 193, 194, 195, 196, 197, 202, 203, 204, 205, 227, 228, 229, 230, 231, 232, 233, 234, 235, 236] (by decide +kernel) (by decide +kernel)
set_option maxRecDepth 100000 in
theorem zz_texts_call_13 : GoodIn wsL_texts wsL_call_r13 := goodIn_r _ [237, 238, 244, 245, 246, 247, 248, 249, 250, 251, 264, 265, 266, 267, 313, 314, 315, 316, 317, 318, 319, 320, 321, 322] (by decide +kernel) (by decide +kernel)
set_option maxRecDepth 100000 in
theorem zz_texts_call_14 : GoodIn wsL_texts wsL_call_r14 := goodIn_r _ [323, 324, 325, 326, 327, 328, 329, 330, 331, 332, 333, 334, 335, 336, 337, 338, 369, 370, 371, 372, 373, 374, 375, 376] (by decide +kernel) (by decide +kernel)
set_option maxRecDepth 100000 in
theorem zz_texts_call_15 : GoodIn wsL_texts wsL_call_r15 := goodIn_r _ [377, 378, 379, 437, 438, 439, 440, 45, 441, 442, 443, 348, 349, 350, 351, 444, 445, 446, 447, 448, 449, 128, 450, 451] (by decide +kernel) (by decide +kernel)
set_option maxRecDepth 100000 in
theorem zz_texts_call_16 : GoodIn wsL_texts wsL_call_r16 := goodIn_r _ [452, 453, 454, 455, 456, 457, 458, 459, 460, 461, 462, 463, 464, 465, 466, 467, 468, 469, 470, 471, 472, 473, 474, 475] (by decide +kernel) (by decide +kernel)
set_option maxRecDepth 100000 in
theorem zz_texts_call_17 : GoodIn wsL_texts wsL_call_r17 := goodIn_r _ [476, 477, 478, 479, 480, 481, 482, 483, 484, 485, 486, 487, 488, 489, 490, 491, 492, 493, 494, 495, 496, 497, 498, 499] (by decide +kernel) (by decide +kernel)
set_option maxRecDepth 100000 in
theorem zz_texts_call_18 : GoodIn wsL_texts wsL_call_r18 := goodIn_r _ [500, 501, 502, 503, 504, 505, 506, 507, 508, 509, 510, 511, 512, 513, 514, 515, 516, 517, 518, 519, 520, 521, 522, 523] (by decide +kernel) (by decide +kernel)
set_option maxRecDepth 100000 in
theorem zz_texts_call_19 : GoodIn wsL_texts wsL_call_r19 := goodIn_r _ [524, 525, 526, 527, 528, 529, 530, 531, 532, 533, 534, 535, 536, 537, 538, 539, 540, 541, 542, 543, 544, 545, 546, 547] (by decide +kernel) (by decide +kernel)
set_option maxRecDepth 100000 in
theorem zz_texts_call_20 : GoodIn wsL_texts wsL_call_r20 := goodIn_r _ [548, 549, 550, 551, 552, 553, 554, 555, 556, 557, 558, 559, 560, 561, 562, 563, 41, 564, 565, 566, 567] (by decide +kernel) (by decide +kernel)
set_option maxRecDepth 100000 in
theorem zz_texts_call_wsX30 : GoodIn wsL_texts wsX30 := goodIn_r _ [568, 569, 570, 571, 572, 573, 574, 575, 576] (by decide +kernel) (by decide +kernel)
set_option maxRecDepth 100000 in
theorem zz_texts_call_wsX10 : GoodIn wsL_texts wsX10 := goodIn_r _ [591, 592, 593, 594, 595, 596, 597, 598] (by decide +kernel) (by decide +kernel)
set_option maxRecDepth 100000 in
theorem zz_texts_call_wsX20 : GoodIn wsL_texts wsX20 := goodIn_r _ [577, 578, 579, 580, 581, 582, 583] (by decide +kernel) (by decide +kernel)
set_option maxRecDepth 100000 in
theorem zz_texts_call_wsX00 : GoodIn wsL_texts wsX00 := goodIn_r _ [584, 585, 586, 587, 588, 589, 590] (by decide +kernel) (by decide +kernel)
set_option maxRecDepth 100000 in
theorem ggL_texts_L_call : GoodIn wsL_texts wsL_call := goodIn_ca (goodIn_ca (goodIn_ca (goodIn_c1 zz_texts_call_0 (goodIn_app (goodIn_app (goodIn_app (goodIn_app (goodIn_app zz_texts_call_1 (goodIn_app zz_texts_call_2 (goodIn_app zz_texts_call_3 (goodIn_app zz_texts_call_4 (goodIn_app zz_texts_call_5 (goodIn_app zz_texts_call_6 (goodIn_app zz_texts_call_7 (goodIn_app zz_texts_call_8 (goodIn_app zz_texts_call_9 (goodIn_app zz_texts_call_10 (goodIn_app zz_texts_call_11 (goodIn_app zz_texts_call_12 (goodIn_app zz_texts_call_13 (goodIn_app zz_texts_call_14 (goodIn_app zz_texts_call_15 (goodIn_app zz_texts_call_16 (goodIn_app zz_texts_call_17 (goodIn_app zz_texts_call_18 (goodIn_app zz_texts_call_19 zz_texts_call_20))))))))))))))))))) zz_texts_call_wsX30) zz_texts_call_wsX10) zz_texts_call_wsX20) zz_texts_call_wsX00)) (goodIn_sub (fun _ h => List.mem_cons_of_mem _ (List.mem_append_right _ h)) (by decide +kernel))) (goodIn_sub (fun _ h => List.mem_cons_of_mem _ (List.mem_append_left _ (List.mem_append_left _ (List.mem_append_right _ h)))) (by decide +kernel))) (goodIn_sub (fun _ h => List.mem_cons_of_mem _ (List.mem_append_left _ (List.mem_append_right _ h))) (by decide +kernel))
set_option maxRecDepth 100000 in
theorem ggL_texts_L_isError : GoodIn wsL_texts wsL_isError := goodIn_ca (goodIn_ca (goodIn_r _ [129, 130, 131, 132, 3, 133, 48, 134, 135, 128, 136, 137, 138, 139, 140, 141, 142, 143, 144, 145, 47, 146, 147, 148, 149, 150, 151, 152, 153, 52, 154, 155, 156, 51, 157, 119, 158, 159, 160, 161, 162, 163, 164, 165, 120, 166, 167, 168, 169, 125, 170, 171, 172, 173, 121, 174, 175, 176, 177, 122, 178, 179, 180, 181, 123, 182, 183, 184, 185, 186, 187, 188, 189, 124, 190, 191, 192, 193, 194, 195, 196, 197, 568, 569, 570, 571, 572, 573, 574, 575, 576, 584, 585, 586, 587, 588, 589, 590] (by decide +kernel) (by decide +kernel)) (goodIn_sub (fun _ h => List.mem_cons_of_mem _ (List.mem_append_left _ (List.mem_append_left _ (List.mem_append_right _ h)))) (by decide +kernel))) (goodIn_sub (fun _ h => List.mem_cons_of_mem _ (List.mem_append_left _ (List.mem_append_right _ h))) (by decide +kernel))
set_option maxRecDepth 100000 in
theorem ggL_texts_X3_init : GoodIn wsL_texts wsX3_init := goodIn_r _ [32, 33, 34, 35, 36, 37, 38, 39, 40, 41, 42, 43, 44, 45, 46, 47, 48, 49, 50, 51, 52, 53, 54, 55, 56, 57, 58, 59, 60, 61, 62, 63, 64, 65, 66, 67, 68, 69, 70, 71, 72, 73, 74, 75, 76, 77, 78, 79, 80, 81, 82, 83, 84, 85, 86, 87, 88, 89, 90, 91, 92, 93, 94, 95, 96, 3, 97, 98, 99, 100, 101, 102, 103, 104, 105, 106, 107, 108, 109, 110, 111, 112, 113, 114, 115, 116, 117, 118, 119, 120, 121, 122, 123, 124, 125, 577, 578, 579, 580, 581, 582, 583, 568, 569, 570, 571, 572, 573, 574, 575, 576, 584, 585, 586, 587, 588, 589, 590, 591, 592, 593, 594, 595, 596, 597, 598] (by decide +kernel) (by decide +kernel)
set_option maxRecDepth 100000 in
theorem ggL_texts_X3_clearBuffer : GoodIn wsL_texts wsX3_clearBuffer := goodIn_t ggL_texts_L_isError ggL_isError_X3_clearBuffer
set_option maxRecDepth 100000 in
theorem ggL_texts_L_types : GoodIn wsL_texts wsL_types := goodIn_ca (goodIn_ca (goodIn_r _ [136, 137, 138, 139, 140, 3, 141, 142, 143, 144, 145, 48, 47, 568, 569, 570, 571, 572, 573, 574, 575, 576] (by decide +kernel) (by decide +kernel)) (goodIn_sub (fun _ h => List.mem_cons_of_mem _ (List.mem_append_left _ (List.mem_append_left _ (List.mem_append_right _ h)))) (by decide +kernel))) (goodIn_sub (fun _ h => List.mem_cons_of_mem _ (List.mem_append_left _ (List.mem_append_right _ h))) (by decide +kernel))
set_option maxRecDepth 100000 in
theorem ggL_texts_X3_carryOut : GoodIn wsL_texts wsX3_carryOut := goodIn_t ggL_texts_L_call ggL_call_X3_carryOut
set_option maxRecDepth 100000 in
theorem ggL_texts_X3_bufferLength : GoodIn wsL_texts wsX3_bufferLength := goodIn_r _ [343, 48, 568, 569, 570, 571, 572, 573, 574, 575, 576] (by decide +kernel) (by decide +kernel)
set_option maxRecDepth 100000 in
theorem ggL_texts_X3_plots : GoodIn wsL_texts wsX3_plots := goodIn_r _ [347, 39, 348, 349, 350, 38, 351, 67, 568, 569, 570, 571, 572, 573, 574, 575, 576, 577, 578, 579, 580, 581, 582, 583] (by decide +kernel) (by decide +kernel)
set_option maxRecDepth 100000 in
theorem ggL_texts_X3_meanHeight : GoodIn wsL_texts wsX3_meanHeight := goodIn_r _ [355, 40, 356, 357, 358, 359, 59, 360, 73, 568, 569, 570, 571, 572, 573, 574, 575, 576, 591, 592, 593, 594, 595, 596, 597, 598] (by decide +kernel) (by decide +kernel)
set_option maxRecDepth 100000 in
theorem ggL_texts_X3_floods : GoodIn wsL_texts wsX3_floods := goodIn_r _ [364, 40, 568, 569, 570, 571, 572, 573, 574, 575, 576, 591, 592, 593, 594, 595, 596, 597, 598] (by decide +kernel) (by decide +kernel)
set_option maxRecDepth 100000 in
theorem ggL_texts_X3_savedStates : GoodIn wsL_texts wsX3_savedStates := goodIn_r _ [368, 44, 568, 569, 570, 571, 572, 573, 574, 575, 576] (by decide +kernel) (by decide +kernel)
set_option maxRecDepth 100000 in
theorem ggL_texts_X3_undo : GoodIn wsL_texts wsX3_undo := goodIn_t ggL_texts_L_call ggL_call_X3_undo
set_option maxRecDepth 100000 in
theorem ggL_texts_X3_append : GoodIn wsL_texts wsX3_append := goodIn_t ggL_texts_L_call ggL_call_X3_append
set_option maxRecDepth 100000 in
theorem ggL_texts_X3_firstError : GoodIn wsL_texts wsX3_firstError := goodIn_t ggL_texts_L_isError ggL_isError_X3_firstError
set_option maxRecDepth 100000 in
theorem gL_texts_X3_init : GoodIn wsL_texts (wsX3_init) := ggL_texts_X3_init
set_option maxRecDepth 100000 in
theorem gL_texts_L_isError : GoodIn wsL_texts (va_wsS RL 216 yL_isError wsL_isError) := goodIn_app (goodIn_of _ (by decide +kernel)) ggL_texts_L_isError
set_option maxRecDepth 100000 in
theorem gL_texts_X3_clearBuffer : GoodIn wsL_texts (wsV RL 204 RX3 yX3_clearBuffer wsX3_clearBuffer) := goodIn_app (goodIn_of _ (by decide +kernel)) ggL_texts_X3_clearBuffer
set_option maxRecDepth 100000 in
theorem gL_texts_L_types : GoodIn wsL_texts (va_wsS RL 207 yL_types wsL_types) := goodIn_app (goodIn_of _ (by decide +kernel)) ggL_texts_L_types
set_option maxRecDepth 100000 in
theorem gL_texts_X3_carryOut : GoodIn wsL_texts (wsV RL 38 RX3 yX3_carryOut wsX3_carryOut) := goodIn_app (goodIn_of _ (by decide +kernel)) ggL_texts_X3_carryOut
set_option maxRecDepth 100000 in
theorem gL_texts_X3_bufferLength : GoodIn wsL_texts (wsV RL 262 RX3 yX3_bufferLength wsX3_bufferLength) := goodIn_app (goodIn_of _ (by decide +kernel)) ggL_texts_X3_bufferLength
set_option maxRecDepth 100000 in
theorem gL_texts_X3_plots : GoodIn wsL_texts (wsV RL 128 RX3 yX3_plots wsX3_plots) := goodIn_app (goodIn_of _ (by decide +kernel)) ggL_texts_X3_plots
set_option maxRecDepth 100000 in
theorem gL_texts_X3_meanHeight : GoodIn wsL_texts (wsV RL 190 RX3 yX3_meanHeight wsX3_meanHeight) := goodIn_app (goodIn_of _ (by decide +kernel)) ggL_texts_X3_meanHeight
set_option maxRecDepth 100000 in
theorem gL_texts_X3_floods : GoodIn wsL_texts (wsV RL 140 RX3 yX3_floods wsX3_floods) := goodIn_app (goodIn_of _ (by decide +kernel)) ggL_texts_X3_floods
set_option maxRecDepth 100000 in
theorem gL_texts_X3_savedStates : GoodIn wsL_texts (wsV RL 174 RX3 yX3_savedStates wsX3_savedStates) := goodIn_app (goodIn_of _ (by decide +kernel)) ggL_texts_X3_savedStates
set_option maxRecDepth 100000 in
theorem gL_texts_X3_undo : GoodIn wsL_texts (wsV RL 42 RX3 yX3_undo wsX3_undo) := goodIn_app (goodIn_of _ (by decide +kernel)) ggL_texts_X3_undo
set_option maxRecDepth 100000 in
theorem gL_texts_X3_append : GoodIn wsL_texts (wsV RL 35 RX3 yX3_append wsX3_append) := goodIn_app (goodIn_of _ (by decide +kernel)) ggL_texts_X3_append
set_option maxRecDepth 100000 in
theorem gL_texts_X3_firstError : GoodIn wsL_texts (wsV RL 211 RX3 yX3_firstError wsX3_firstError) := goodIn_app (goodIn_of _ (by decide +kernel)) ggL_texts_X3_firstError
set_option maxRecDepth 100000 in
theorem gL_texts_L_call : GoodIn wsL_texts (va_wsS RL 150 yL_call wsL_call) := goodIn_app (goodIn_of _ (by decide +kernel)) ggL_texts_L_call
