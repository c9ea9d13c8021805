set_option maxRecDepth 20000 in
theorem ggL_texts_X3_init : GoodIn wsL_texts wsX3_init := goodIn_r _ [32, 33, 34, 35, 36, 37, 38, 39, 40, 41, 42, 43, 44, 45, 46, 47, 48, 49, 50, 51, 52, 53, 54, 55, 56, 57, 58, 59, 60, 61, 62, 63, 64, 65, 66, 67, 68, 69, 70, 71, 72, 73, 74, 75, 76, 77, 78, 79, 80, 81, 82, 83, 84, 85, 86, 87, 88, 89, 90, 91, 92, 93, 94, 95, 96, 3, 97, 98, 99, 100, 101, 102, 103, 104, 105, 106, 107, 108, 109, 110, 111, 112, 113, 114, 115, 116, 117, 118, 119, 120, 121, 122, 123, 124, 125, 577, 578, 579, 580, 581, 582, 583, 568, 569, 570, 571, 572, 573, 574, 575, 576, 584, 585, 586, 587, 588, 589, 590, 591, 592, 593, 594, 595, 596, 597, 598] (by decide +kernel) (by decide +kernel)
set_option maxRecDepth 20000 in
theorem gL_texts_X3_init : GoodIn wsL_texts (wsX3_init) := ggL_texts_X3_init
set_option maxRecDepth 20000 in
theorem ggL_texts_L_isError : GoodIn wsL_texts wsL_isError := goodIn_ca (goodIn_ca (goodIn_r _ [129, 130, 131, 132, 3, 133, 48, 134, 135, 128, 136, 137, 138, 139, 140, 141, 142, 143, 144, 145, 47, 146, 147, 148, 149, 150, 151, 152, 153, 52, 154, 155, 156, 51, 157, 119, 158, 159, 160, 161, 162, 163, 164, 165, 120, 166, 167, 168, 169, 125, 170, 171, 172, 173, 121, 174, 175, 176, 177, 122, 178, 179, 180, 181, 123, 182, 183, 184, 185, 186, 187, 188, 189, 124, 190, 191, 192, 193, 194, 195, 196, 197, 568, 569, 570, 571, 572, 573, 574, 575, 576, 584, 585, 586, 587, 588, 589, 590] (by decide +kernel) (by decide +kernel)) (goodIn_sub (fun _ h => List.mem_cons_of_mem _ (List.mem_append_left _ (List.mem_append_left _ (List.mem_append_right _ h)))) (by decide +kernel))) (goodIn_sub (fun _ h => List.mem_cons_of_mem _ (List.mem_append_left _ (List.mem_append_right _ h))) (by decide +kernel))
set_option maxRecDepth 20000 in
theorem gL_texts_L_isError : GoodIn wsL_texts (va_wsS RL 216 yL_isError wsL_isError) := goodIn_app (goodIn_of _ (by decide +kernel)) ggL_texts_L_isError
set_option maxRecDepth 20000 in
theorem ggL_texts_X3_clearBuffer : GoodIn wsL_texts wsX3_clearBuffer := goodIn_r _ [133, 48, 568, 569, 570, 571, 572, 573, 574, 575, 576] (by decide +kernel) (by decide +kernel)
set_option maxRecDepth 20000 in
theorem gL_texts_X3_clearBuffer : GoodIn wsL_texts (wsV RL 204 RX3 yX3_clearBuffer wsX3_clearBuffer) := goodIn_app (goodIn_of _ (by decide +kernel)) ggL_texts_X3_clearBuffer
set_option maxRecDepth 20000 in
theorem ggL_texts_L_types : GoodIn wsL_texts wsL_types := goodIn_ca (goodIn_ca (goodIn_r _ [136, 137, 138, 139, 140, 3, 141, 142, 143, 144, 145, 48, 47, 568, 569, 570, 571, 572, 573, 574, 575, 576] (by decide +kernel) (by decide +kernel)) (goodIn_sub (fun _ h => List.mem_cons_of_mem _ (List.mem_append_left _ (List.mem_append_left _ (List.mem_append_right _ h)))) (by decide +kernel))) (goodIn_sub (fun _ h => List.mem_cons_of_mem _ (List.mem_append_left _ (List.mem_append_right _ h))) (by decide +kernel))
set_option maxRecDepth 20000 in
theorem gL_texts_L_types : GoodIn wsL_texts (va_wsS RL 207 yL_types wsL_types) := goodIn_app (goodIn_of _ (by decide +kernel)) ggL_texts_L_types
set_option maxRecDepth 20000 in
theorem ggL_texts_X3_carryOut : GoodIn wsL_texts wsX3_carryOut := goodIn_ca (goodIn_r _ [201, 142, 143, 48, 52, 150, 151, 152, 3, 153, 47, 154, 155, 156, 51, 157, 119, 158, 159, 160, 161, 162, 163, 164, 165, 120, 166, 167, 168, 169, 125, 170, 171, 172, 173, 121, 174, 175, 176, 177, 122, 178, 179, 180, 181, 123, 182, 183, 184, 185, 186, 187, 188, 189, 124, 190, 191, 192, 193, 194, 195, 196, 197, 202, 203, 204, 205, 206, 207, 208, 209, 44, 43, 210, 211, 212, 213, 214, 215, 216, 217, 42, 58, 59, 40, 218, 69, 70, 71, 34, 35, 61, 72, 73, 74, 75, 76, 77, 78, 79, 80, 81, 82, 83, 219, 220, 221, 222, 223, 224, 225, 226, 227, 228, 229, 230, 39, 231, 232, 233, 234, 235, 236, 237, 238, 239, 106, 107, 240, 241, 242, 243, 244, 245, 246, 247, 248, 249, 250, 251, 252, 253, 254, 255, 256, 257, 258, 259, 260, 261, 262, 263, 93, 94, 38, 95, 62, 96, 97, 264, 265, 266, 267, 268, 269, 270, 271, 64, 272, 273, 274, 275, 67, 276, 277, 278, 279, 65, 280, 281, 282, 283, 66, 284, 285, 286, 287, 288, 103, 104, 105, 289, 113, 114, 115, 290, 291, 292, 293, 294, 295, 296, 297, 298, 299, 300, 301, 302, 303, 304, 305, 306, 307, 308, 309, 310, 311, 312, 313, 314, 315, 316, 317, 318, 319, 320, 321, 322, 323, 324, 63, 325, 326, 327, 328, 329, 330, 331, 332, 333, 334, 335, 336, 337, 338, 339, 85, 86, 87, 88, 89, 90, 91, 92, 98, 99, 100, 101, 60, 102, 108, 109, 110, 111, 112, 568, 569, 570, 571, 572, 573, 574, 575, 576, 584, 585, 586, 587, 588, 589, 590, 591, 592, 593, 594, 595, 596, 597, 598, 577, 578, 579, 580, 581, 582, 583] (by decide +kernel) (by decide +kernel)) (goodIn_sub (fun _ h => List.mem_cons_of_mem _ (List.mem_append_left _ (List.mem_append_left _ (List.mem_append_right _ h)))) (by decide +kernel))
set_option maxRecDepth 20000 in
theorem gL_texts_X3_carryOut : GoodIn wsL_texts (wsV RL 38 RX3 yX3_carryOut wsX3_carryOut) := goodIn_app (goodIn_of _ (by decide +kernel)) ggL_texts_X3_carryOut
set_option maxRecDepth 20000 in
theorem ggL_texts_X3_bufferLength : GoodIn wsL_texts wsX3_bufferLength := goodIn_r _ [343, 48, 568, 569, 570, 571, 572, 573, 574, 575, 576] (by decide +kernel) (by decide +kernel)
set_option maxRecDepth 20000 in
theorem gL_texts_X3_bufferLength : GoodIn wsL_texts (wsV RL 262 RX3 yX3_bufferLength wsX3_bufferLength) := goodIn_app (goodIn_of _ (by decide +kernel)) ggL_texts_X3_bufferLength
set_option maxRecDepth 20000 in
theorem ggL_texts_X3_plots : GoodIn wsL_texts wsX3_plots := goodIn_r _ [347, 39, 348, 349, 350, 38, 351, 67, 568, 569, 570, 571, 572, 573, 574, 575, 576, 577, 578, 579, 580, 581, 582, 583] (by decide +kernel) (by decide +kernel)
set_option maxRecDepth 20000 in
theorem gL_texts_X3_plots : GoodIn wsL_texts (wsV RL 128 RX3 yX3_plots wsX3_plots) := goodIn_app (goodIn_of _ (by decide +kernel)) ggL_texts_X3_plots
set_option maxRecDepth 20000 in
theorem ggL_texts_X3_meanHeight : GoodIn wsL_texts wsX3_meanHeight := goodIn_r _ [355, 40, 356, 357, 358, 359, 59, 360, 73, 568, 569, 570, 571, 572, 573, 574, 575, 576, 591, 592, 593, 594, 595, 596, 597, 598] (by decide +kernel) (by decide +kernel)
set_option maxRecDepth 20000 in
theorem gL_texts_X3_meanHeight : GoodIn wsL_texts (wsV RL 190 RX3 yX3_meanHeight wsX3_meanHeight) := goodIn_app (goodIn_of _ (by decide +kernel)) ggL_texts_X3_meanHeight
set_option maxRecDepth 20000 in
theorem ggL_texts_X3_floods : GoodIn wsL_texts wsX3_floods := goodIn_r _ [364, 40, 568, 569, 570, 571, 572, 573, 574, 575, 576, 591, 592, 593, 594, 595, 596, 597, 598] (by decide +kernel) (by decide +kernel)
set_option maxRecDepth 20000 in
theorem gL_texts_X3_floods : GoodIn wsL_texts (wsV RL 140 RX3 yX3_floods wsX3_floods) := goodIn_app (goodIn_of _ (by decide +kernel)) ggL_texts_X3_floods
set_option maxRecDepth 20000 in
theorem ggL_texts_X3_savedStates : GoodIn wsL_texts wsX3_savedStates := goodIn_r _ [368, 44, 568, 569, 570, 571, 572, 573, 574, 575, 576] (by decide +kernel) (by decide +kernel)
set_option maxRecDepth 20000 in
theorem gL_texts_X3_savedStates : GoodIn wsL_texts (wsV RL 174 RX3 yX3_savedStates wsX3_savedStates) := goodIn_app (goodIn_of _ (by decide +kernel)) ggL_texts_X3_savedStates
set_option maxRecDepth 20000 in
theorem ggL_texts_X3_undo : GoodIn wsL_texts wsX3_undo := goodIn_ca (goodIn_r _ [372, 144, 145, 43, 44, 373, 374, 3, 375, 376, 377, 378, 379, 40, 39, 219, 220, 221, 59, 222, 72, 223, 224, 225, 226, 73, 74, 75, 76, 77, 78, 79, 339, 85, 86, 38, 87, 62, 67, 88, 81, 82, 83, 89, 90, 91, 92, 93, 94, 95, 96, 97, 98, 99, 100, 101, 60, 102, 103, 104, 105, 106, 107, 108, 109, 110, 111, 63, 64, 65, 66, 112, 113, 114, 115, 568, 569, 570, 571, 572, 573, 574, 575, 576, 591, 592, 593, 594, 595, 596, 597, 598, 577, 578, 579, 580, 581, 582, 583] (by decide +kernel) (by decide +kernel)) (goodIn_sub (fun _ h => List.mem_cons_of_mem _ (List.mem_append_left _ (List.mem_append_right _ h))) (by decide +kernel))
set_option maxRecDepth 20000 in
theorem gL_texts_X3_undo : GoodIn wsL_texts (wsV RL 42 RX3 yX3_undo wsX3_undo) := goodIn_app (goodIn_of _ (by decide +kernel)) ggL_texts_X3_undo
set_option maxRecDepth 20000 in
theorem ggL_texts_X3_append : GoodIn wsL_texts wsX3_append := goodIn_ca (goodIn_ca (goodIn_r _ [141, 142, 143, 144, 145, 48, 47, 568, 569, 570, 571, 572, 573, 574, 575, 576] (by decide +kernel) (by decide +kernel)) (goodIn_sub (fun _ h => List.mem_cons_of_mem _ (List.mem_append_left _ (List.mem_append_left _ (List.mem_append_right _ h)))) (by decide +kernel))) (goodIn_sub (fun _ h => List.mem_cons_of_mem _ (List.mem_append_left _ (List.mem_append_right _ h))) (by decide +kernel))
set_option maxRecDepth 20000 in
theorem gL_texts_X3_append : GoodIn wsL_texts (wsV RL 35 RX3 yX3_append wsX3_append) := goodIn_app (goodIn_of _ (by decide +kernel)) ggL_texts_X3_append
set_option maxRecDepth 20000 in
theorem ggL_texts_X3_firstError : GoodIn wsL_texts wsX3_firstError := goodIn_r _ [149, 150, 151, 152, 3, 153, 52, 48, 47, 154, 155, 156, 51, 157, 119, 158, 159, 160, 161, 162, 163, 164, 165, 120, 166, 167, 168, 169, 125, 170, 171, 172, 173, 121, 174, 175, 176, 177, 122, 178, 179, 180, 181, 123, 182, 183, 184, 185, 186, 187, 188, 189, 124, 190, 191, 192, 193, 194, 195, 196, 197, 568, 569, 570, 571, 572, 573, 574, 575, 576, 584, 585, 586, 587, 588, 589, 590] (by decide +kernel) (by decide +kernel)
set_option maxRecDepth 20000 in
theorem gL_texts_X3_firstError : GoodIn wsL_texts (wsV RL 211 RX3 yX3_firstError wsX3_firstError) := goodIn_app (goodIn_of _ (by decide +kernel)) ggL_texts_X3_firstError
set_option maxRecDepth 20000 in
theorem ggL_texts_L_call : GoodIn wsL_texts wsL_call := goodIn_ca (goodIn_ca (goodIn_ca (goodIn_r _ [382, 383, 384, 385, 386, 387, 388, 3, 389, 40, 39, 390, 391, 392, 393, 394, 395, 96, 97, 396, 397, 398, 399, 294, 295, 400, 401, 402, 142, 143, 239, 106, 107, 206, 207, 208, 209, 44, 43, 210, 211, 212, 213, 214, 215, 216, 217, 42, 58, 59, 218, 69, 70, 71, 34, 35, 61, 72, 73, 74, 75, 76, 77, 78, 79, 80, 81, 82, 83, 219, 220, 221, 222, 223, 224, 225, 226, 240, 241, 242, 243, 339, 85, 86, 38, 87, 62, 67, 88, 89, 90, 91, 92, 93, 94, 95, 98, 99, 100, 101, 60, 102, 103, 104, 105, 108, 109, 110, 111, 63, 64, 65, 66, 112, 113, 114, 115, 403, 404, 405, 406, 252, 253, 254, 255, 256, 257, 258, 259, 260, 261, 262, 407, 408, 409, 410, 411, 412, 413, 309, 310, 311, 312, 414, 415, 416, 417, 418, 419, 420, 263, 268, 269, 270, 271, 272, 273, 274, 275, 276, 277, 278, 279, 280, 281, 282, 283, 421, 422, 423, 424, 144, 145, 284, 285, 286, 287, 288, 289, 290, 291, 292, 293, 296, 297, 298, 299, 300, 301, 302, 303, 304, 305, 306, 307, 308, 425, 426, 427, 428, 429, 430, 431, 432, 433, 434, 435, 436, 138, 139, 140, 141, 48, 47, 198, 199, 200, 201, 52, 150, 151, 152, 153, 154, 155, 156, 51, 157, 119, 158, 159, 160, 161, 162, 163, 164, 165, 120, 166, 167, 168, 169, 125, 170, 171, 172, 173, 121, 174, 175, 176, 177, 122, 178, 179, 180, 181, 123, 182, 183, 184, 185, 186, 187, 188, 189, 124, 190, 191, 192, 193, 194, 195, 196, 197, 202, 203, 204, 205, 227, 228, 229, 230, 231, 232, 233, 234, 235, 236, 237, 238, 244, 245, 246, 247, 248, 249, 250, 251, 264, 265, 266, 267, 313, 314, 315, 316, 317, 318, 319, 320, 321, 322, 323, 324, 325, 326, 327, 328, 329, 330, 331, 332, 333, 334, 335, 336, 337, 338, 369, 370, 371, 372, 373, 374, 375, 376, 377, 378, 379, 437, 438, 439, 440, 45, 441, 442, 443, 348, 349, 350, 351, 444, 445, 446, 447, 448, 449, 128, 450, 451, 452, 453, 454, 455, 456, 457, 458, 459, 460, 461, 462, 463, 464, 465, 466, 467, 468, 469, 470, 471, 472, 473, 474, 475, 476, 477, 478, 479, 480, 481, 482, 483, 484, 485, 486, 487, 488, 489, 490, 491, 492, 493, 494, 495, 496, 497, 498, 499, 500, 501, 502, 503, 504, 505, 506, 507, 508, 509, 510, 511, 512, 513, 514, 515, 516, 517, 518, 519, 520, 521, 522, 523, 524, 525, 526, 527, 528, 529, 530, 531, 532, 533, 534, 535, 536, 537, 538, 539, 540, 541, 542, 543, 544, 545, 546, 547, 548, 549, 550, 551, 552, 553, 554, 555, 556, 557, 558, 559, 560, 561, 562, 563, 41, 564, 565, 566, 567, 568, 569, 570, 571, 572, 573, 574, 575, 576, 591, 592, 593, 594, 595, 596, 597, 598, 577, 578, 579, 580, 581, 582, 583, 584, 585, 586, 587, 588, 589, 590] (by decide +kernel) (by decide +kernel)) (goodIn_sub (fun _ h => List.mem_cons_of_mem _ (List.mem_append_right _ h)) (by decide +kernel))) (goodIn_sub (fun _ h => List.mem_cons_of_mem _ (List.mem_append_left _ (List.mem_append_left _ (List.mem_append_right _ h)))) (by decide +kernel))) (goodIn_sub (fun _ h => List.mem_cons_of_mem _ (List.mem_append_left _ (List.mem_append_right _ h))) (by decide +kernel))
set_option maxRecDepth 20000 in
theorem gL_texts_L_call : GoodIn wsL_texts (va_wsS RL 150 yL_call wsL_call) := goodIn_app (goodIn_of _ (by decide +kernel)) ggL_texts_L_call
theorem dL_texts_0 : decode cL_texts 0 = .ok (.new 10, 3) := by decide +kernel
theorem dL_texts_3 : decode cL_texts 3 = .ok (.dup, 1) := by decide +kernel
theorem dL_texts_4 : decode cL_texts 4 = .ok (.invokespecial 181, 3) := by decide +kernel
theorem dL_texts_7 : decode cL_texts 7 = .ok (.astore_n 0, 1) := by decide +kernel
theorem dL_texts_8 : decode cL_texts 8 = .ok (.aload_n 0, 1) := by decide +kernel
theorem dL_texts_9 : decode cL_texts 9 = .ok (.ldc2_w 214, 3) := by decide +kernel
theorem dL_texts_12 : decode cL_texts 12 = .ok (.lconst 0, 1) := by decide +kernel
theorem dL_texts_13 : decode cL_texts 13 = .ok (.iconst 3, 1) := by decide +kernel
theorem dL_texts_14 : decode cL_texts 14 = .ok (.invokestatic 216, 3) := by decide +kernel
theorem dL_texts_17 : decode cL_texts 17 = .ok (.ifCond .eq 112, 3) := by decide +kernel
theorem dL_texts_20 : decode cL_texts 20 = .ok (.aload_n 0, 1) := by decide +kernel
theorem dL_texts_21 : decode cL_texts 21 = .ok (.ldc2_w 220, 3) := by decide +kernel
theorem dL_texts_24 : decode cL_texts 24 = .ok (.lconst 0, 1) := by decide +kernel
theorem dL_texts_25 : decode cL_texts 25 = .ok (.bipush 6, 2) := by decide +kernel
theorem dL_texts_27 : decode cL_texts 27 = .ok (.invokestatic 216, 3) := by decide +kernel
theorem dL_texts_30 : decode cL_texts 30 = .ok (.ifCond .eq 99, 3) := by decide +kernel
theorem dL_texts_33 : decode cL_texts 33 = .ok (.aload_n 0, 1) := by decide +kernel
theorem dL_texts_34 : decode cL_texts 34 = .ok (.ldc2_w 222, 3) := by decide +kernel
theorem dL_texts_37 : decode cL_texts 37 = .ok (.lconst 0, 1) := by decide +kernel
theorem dL_texts_38 : decode cL_texts 38 = .ok (.iconst 5, 1) := by decide +kernel
theorem dL_texts_39 : decode cL_texts 39 = .ok (.invokestatic 216, 3) := by decide +kernel
theorem dL_texts_42 : decode cL_texts 42 = .ok (.ifCond .eq 87, 3) := by decide +kernel
theorem dL_texts_45 : decode cL_texts 45 = .ok (.aload_n 0, 1) := by decide +kernel
theorem dL_texts_46 : decode cL_texts 46 = .ok (.ldc2_w 224, 3) := by decide +kernel
theorem dL_texts_49 : decode cL_texts 49 = .ok (.lconst 0, 1) := by decide +kernel
theorem dL_texts_50 : decode cL_texts 50 = .ok (.iconst 4, 1) := by decide +kernel
theorem dL_texts_51 : decode cL_texts 51 = .ok (.invokestatic 216, 3) := by decide +kernel
theorem dL_texts_54 : decode cL_texts 54 = .ok (.ifCond .eq 75, 3) := by decide +kernel
theorem dL_texts_57 : decode cL_texts 57 = .ok (.aload_n 0, 1) := by decide +kernel
theorem dL_texts_58 : decode cL_texts 58 = .ok (.ldc2_w 226, 3) := by decide +kernel
theorem dL_texts_61 : decode cL_texts 61 = .ok (.lconst 0, 1) := by decide +kernel
theorem dL_texts_62 : decode cL_texts 62 = .ok (.iconst 1, 1) := by decide +kernel
theorem dL_texts_63 : decode cL_texts 63 = .ok (.invokestatic 216, 3) := by decide +kernel
theorem dL_texts_66 : decode cL_texts 66 = .ok (.ifCond .eq 63, 3) := by decide +kernel
theorem dL_texts_69 : decode cL_texts 69 = .ok (.aload_n 0, 1) := by decide +kernel
theorem dL_texts_70 : decode cL_texts 70 = .ok (.ldc2_w 228, 3) := by decide +kernel
theorem dL_texts_73 : decode cL_texts 73 = .ok (.lconst 0, 1) := by decide +kernel
theorem dL_texts_74 : decode cL_texts 74 = .ok (.iconst 4, 1) := by decide +kernel
theorem dL_texts_75 : decode cL_texts 75 = .ok (.invokestatic 216, 3) := by decide +kernel
theorem dL_texts_78 : decode cL_texts 78 = .ok (.ifCond .eq 51, 3) := by decide +kernel
theorem dL_texts_81 : decode cL_texts 81 = .ok (.aload_n 0, 1) := by decide +kernel
theorem dL_texts_82 : decode cL_texts 82 = .ok (.ldc2_w 230, 3) := by decide +kernel
theorem dL_texts_85 : decode cL_texts 85 = .ok (.lconst 0, 1) := by decide +kernel
theorem dL_texts_86 : decode cL_texts 86 = .ok (.iconst 5, 1) := by decide +kernel
theorem dL_texts_87 : decode cL_texts 87 = .ok (.invokestatic 216, 3) := by decide +kernel
theorem dL_texts_90 : decode cL_texts 90 = .ok (.ifCond .eq 39, 3) := by decide +kernel
theorem dL_texts_93 : decode cL_texts 93 = .ok (.aload_n 0, 1) := by decide +kernel
theorem dL_texts_94 : decode cL_texts 94 = .ok (.ldc2_w 232, 3) := by decide +kernel
theorem dL_texts_97 : decode cL_texts 97 = .ok (.lconst 0, 1) := by decide +kernel
theorem dL_texts_98 : decode cL_texts 98 = .ok (.iconst 1, 1) := by decide +kernel
theorem dL_texts_99 : decode cL_texts 99 = .ok (.invokestatic 216, 3) := by decide +kernel
theorem dL_texts_102 : decode cL_texts 102 = .ok (.ifCond .eq 27, 3) := by decide +kernel
theorem dL_texts_105 : decode cL_texts 105 = .ok (.aload_n 0, 1) := by decide +kernel
theorem dL_texts_106 : decode cL_texts 106 = .ok (.ldc2_w 234, 3) := by decide +kernel
theorem dL_texts_109 : decode cL_texts 109 = .ok (.lconst 0, 1) := by decide +kernel
theorem dL_texts_110 : decode cL_texts 110 = .ok (.iconst 1, 1) := by decide +kernel
theorem dL_texts_111 : decode cL_texts 111 = .ok (.invokestatic 216, 3) := by decide +kernel
theorem dL_texts_114 : decode cL_texts 114 = .ok (.ifCond .eq 15, 3) := by decide +kernel
theorem dL_texts_117 : decode cL_texts 117 = .ok (.aload_n 0, 1) := by decide +kernel
theorem dL_texts_118 : decode cL_texts 118 = .ok (.ldc2_w 236, 3) := by decide +kernel
theorem dL_texts_121 : decode cL_texts 121 = .ok (.lconst 0, 1) := by decide +kernel
theorem dL_texts_122 : decode cL_texts 122 = .ok (.iconst 3, 1) := by decide +kernel
theorem dL_texts_123 : decode cL_texts 123 = .ok (.invokestatic 216, 3) := by decide +kernel
theorem dL_texts_126 : decode cL_texts 126 = .ok (.ifCond .ne 5, 3) := by decide +kernel
theorem dL_texts_129 : decode cL_texts 129 = .ok (.iconst 0, 1) := by decide +kernel
theorem dL_texts_130 : decode cL_texts 130 = .ok (.ireturn, 1) := by decide +kernel
theorem dL_texts_131 : decode cL_texts 131 = .ok (.aload_n 0, 1) := by decide +kernel
theorem dL_texts_132 : decode cL_texts 132 = .ok (.ldc2_w 238, 3) := by decide +kernel
theorem dL_texts_135 : decode cL_texts 135 = .ok (.lconst 0, 1) := by decide +kernel
theorem dL_texts_136 : decode cL_texts 136 = .ok (.iconst 1, 1) := by decide +kernel
theorem dL_texts_137 : decode cL_texts 137 = .ok (.invokestatic 216, 3) := by decide +kernel
theorem dL_texts_140 : decode cL_texts 140 = .ok (.ifCond .eq 103, 3) := by decide +kernel
theorem dL_texts_143 : decode cL_texts 143 = .ok (.aload_n 0, 1) := by decide +kernel
theorem dL_texts_144 : decode cL_texts 144 = .ok (.ldc2_w 240, 3) := by decide +kernel
theorem dL_texts_147 : decode cL_texts 147 = .ok (.lconst 0, 1) := by decide +kernel
theorem dL_texts_148 : decode cL_texts 148 = .ok (.iconst 1, 1) := by decide +kernel
theorem dL_texts_149 : decode cL_texts 149 = .ok (.invokestatic 216, 3) := by decide +kernel
theorem dL_texts_152 : decode cL_texts 152 = .ok (.ifCond .eq 91, 3) := by decide +kernel
theorem dL_texts_155 : decode cL_texts 155 = .ok (.aload_n 0, 1) := by decide +kernel
theorem dL_texts_156 : decode cL_texts 156 = .ok (.ldc2_w 242, 3) := by decide +kernel
theorem dL_texts_159 : decode cL_texts 159 = .ok (.lconst 0, 1) := by decide +kernel
theorem dL_texts_160 : decode cL_texts 160 = .ok (.iconst 2, 1) := by decide +kernel
theorem dL_texts_161 : decode cL_texts 161 = .ok (.invokestatic 216, 3) := by decide +kernel
theorem dL_texts_164 : decode cL_texts 164 = .ok (.ifCond .eq 79, 3) := by decide +kernel
theorem dL_texts_167 : decode cL_texts 167 = .ok (.aload_n 0, 1) := by decide +kernel
theorem dL_texts_168 : decode cL_texts 168 = .ok (.ldc2_w 244, 3) := by decide +kernel
theorem dL_texts_171 : decode cL_texts 171 = .ok (.ldc2_w 246, 3) := by decide +kernel
theorem dL_texts_174 : decode cL_texts 174 = .ok (.bipush 12, 2) := by decide +kernel
theorem dL_texts_176 : decode cL_texts 176 = .ok (.invokestatic 216, 3) := by decide +kernel
theorem dL_texts_179 : decode cL_texts 179 = .ok (.ifCond .eq 64, 3) := by decide +kernel
theorem dL_texts_182 : decode cL_texts 182 = .ok (.aload_n 0, 1) := by decide +kernel
theorem dL_texts_183 : decode cL_texts 183 = .ok (.ldc2_w 248, 3) := by decide +kernel
theorem dL_texts_186 : decode cL_texts 186 = .ok (.ldc2_w 250, 3) := by decide +kernel
theorem dL_texts_189 : decode cL_texts 189 = .ok (.bipush 11, 2) := by decide +kernel
theorem dL_texts_191 : decode cL_texts 191 = .ok (.invokestatic 216, 3) := by decide +kernel
theorem dL_texts_194 : decode cL_texts 194 = .ok (.ifCond .eq 49, 3) := by decide +kernel
theorem dL_texts_197 : decode cL_texts 197 = .ok (.aload_n 0, 1) := by decide +kernel
