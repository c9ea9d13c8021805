set_option maxRecDepth 100000 in
theorem wsL_law_r1_in : ∀ w ∈ wsL_law0_r1, w ∈ lw_tbl := fun w h => (goodIn_p wsL_law0_r1 [809, 48, 51] rfl (by decide +kernel) w h).1
theorem wsL_law_r2_in : ∀ w ∈ wsL_law0_r2, w ∈ lw_tbl := fun w h => (goodIn_p wsL_law0_r2 [56] (by decide +kernel) (by decide +kernel) w h).1
theorem wsL_law_r3_in : ∀ w ∈ wsL_law0_r3, w ∈ lw_tbl := fun w h => (goodIn_p wsL_law0_r3 [62, 66, 101, 105] (by decide +kernel) (by decide +kernel) w h).1
theorem wsL_law_r4_in : ∀ w ∈ wsL_law0_r4, w ∈ lw_tbl := fun w h => (goodIn_p wsL_law0_r4 [109, 112, 116, 120, 123, 127, 132] (by decide +kernel) (by decide +kernel) w h).1
theorem wsL_law_r5_in : ∀ w ∈ wsL_law0_r5, w ∈ lw_tbl := fun w h => (goodIn_p wsL_law0_r5 [163, 224, 227] (by decide +kernel) (by decide +kernel) w h).1
theorem wsL_law_r6_in : ∀ w ∈ wsL_law0_r6, w ∈ lw_tbl := fun w h => (goodIn_p wsL_law0_r6 [299, 302, 306, 327, 331] (by decide +kernel) (by decide +kernel) w h).1
theorem wsL_law_r7_in : ∀ w ∈ wsL_law0_r7, w ∈ lw_tbl := fun w h => (goodIn_p wsL_law0_r7 [335, 340, 347, 352, 357] (by decide +kernel) (by decide +kernel) w h).1
theorem wsL_law_r8_in : ∀ w ∈ wsL_law0_r8, w ∈ lw_tbl := fun w h => (goodIn_p wsL_law0_r8 [360, 363, 512, 515, 520, 524] (by decide +kernel) (by decide +kernel) w h).1
theorem wsL_law_r9_in : ∀ w ∈ wsL_law0_r9, w ∈ lw_tbl := fun w h => (goodIn_p wsL_law0_r9 [370, 444, 448, 452, 456, 375] (by decide +kernel) (by decide +kernel) w h).1
theorem wsL_law_r10_in : ∀ w ∈ wsL_law0_r10, w ∈ lw_tbl := fun w h => (goodIn_p wsL_law0_r10 [379, 385, 390, 410, 414] (by decide +kernel) (by decide +kernel) w h).1
theorem wsL_law_r11_in : ∀ w ∈ wsL_law0_r11, w ∈ lw_tbl := fun w h => (goodIn_p wsL_law0_r11 [367, 529, 534, 539, 545, 549] (by decide +kernel) (by decide +kernel) w h).1
theorem wsL_law_r12_in : ∀ w ∈ wsL_law0_r12, w ∈ lw_tbl := fun w h => (goodIn_p wsL_law0_r12 [553, 557, 561, 565, 569, 573] (by decide +kernel) (by decide +kernel) w h).1
theorem wsL_law_r13_in : ∀ w ∈ wsL_law0_r13, w ∈ lw_tbl := fun w h => (goodIn_p wsL_law0_r13 [577, 581, 585, 589, 593, 597] (by decide +kernel) (by decide +kernel) w h).1
