theorem wsL_law_r1_in : ∀ w ∈ wsL_law0_r1, w ∈ lw_tbl := fun w h => (goodIn_p wsL_law0_r1 [84, 87] (by decide +kernel) (by decide +kernel) w h).1
theorem wsL_law_r2_in : ∀ w ∈ wsL_law0_r2, w ∈ lw_tbl := fun w h => (goodIn_p wsL_law0_r2 [92, 98] (by decide +kernel) (by decide +kernel) w h).1
theorem wsL_law_r3_in : ∀ w ∈ wsL_law0_r3, w ∈ lw_tbl := fun w h => (goodIn_p wsL_law0_r3 [102, 137, 141] (by decide +kernel) (by decide +kernel) w h).1
theorem wsL_law_r4_in : ∀ w ∈ wsL_law0_r4, w ∈ lw_tbl := fun w h => (goodIn_p wsL_law0_r4 [145, 148, 152, 156, 159, 163, 168, 199] (by decide +kernel) (by decide +kernel) w h).1
theorem wsL_law_r5_in : ∀ w ∈ wsL_law0_r5, w ∈ lw_tbl := fun w h => (goodIn_p wsL_law0_r5 [935] (by decide +kernel) (by decide +kernel) w h).1
theorem wsL_law_r6_in : ∀ w ∈ wsL_law0_r6, w ∈ lw_tbl := fun w h => (goodIn_p wsL_law0_r6 [446, 449, 521, 299, 526] (by decide +kernel) (by decide +kernel) w h).1
theorem wsL_law_r7_in : ∀ w ∈ wsL_law0_r7, w ∈ lw_tbl := fun w h => (goodIn_p wsL_law0_r7 [264, 268, 272, 277] (by decide +kernel) (by decide +kernel) w h).1
theorem wsL_law_r8_in : ∀ w ∈ wsL_law0_r8, w ∈ lw_tbl := fun w h => (goodIn_p wsL_law0_r8 [327, 990, 993, 996, 999, 1003, 1006] (by decide +kernel) (by decide +kernel) w h).1
theorem wsL_law_r9_in : ∀ w ∈ wsL_law0_r9, w ∈ lw_tbl := fun w h => (goodIn_p wsL_law0_r9 [1010, 1013, 1017, 986, 550] (by decide +kernel) (by decide +kernel) w h).1
theorem wsL_law_r10_in : ∀ w ∈ wsL_law0_r10, w ∈ lw_tbl := fun w h => (goodIn_p wsL_law0_r10 [555, 558, 561, 1021, 1025, 568] (by decide +kernel) (by decide +kernel) w h).1
theorem wsL_law_r11_in : ∀ w ∈ wsL_law0_r11, w ∈ lw_tbl := fun w h => (goodIn_p wsL_law0_r11 [571, 576, 1029, 1033, 584] (by decide +kernel) (by decide +kernel) w h).1
theorem wsL_law_r12_in : ∀ w ∈ wsL_law0_r12, w ∈ lw_tbl := fun w h => (goodIn_p wsL_law0_r12 [587, 311, 315, 319, 323, 593] (by decide +kernel) (by decide +kernel) w h).1
theorem wsL_law_r13_in : ∀ w ∈ wsL_law0_r13, w ∈ lw_tbl := fun w h => (goodIn_p wsL_law0_r13 [597, 296, 604, 624, 335] (by decide +kernel) (by decide +kernel) w h).1
theorem wsL_law_r14_in : ∀ w ∈ wsL_law0_r14, w ∈ lw_tbl := fun w h => (goodIn_p wsL_law0_r14 [1037, 1040, 1044, 1048, 1051, 1055] (by decide +kernel) (by decide +kernel) w h).1
theorem wsL_law_r15_in : ∀ w ∈ wsL_law0_r15, w ∈ lw_tbl := fun w h => (goodIn_p wsL_law0_r15 [1059, 1063, 633, 1067, 260] (by decide +kernel) (by decide +kernel) w h).1
theorem wsL_law_r16_in : ∀ w ∈ wsL_law0_r16, w ∈ lw_tbl := fun w h => (goodIn_p wsL_law0_r16 [284, 288, 292, 303, 307, 331] (by decide +kernel) (by decide +kernel) w h).1
theorem wsL_law_r17_in : ∀ w ∈ wsL_law0_r17, w ∈ lw_tbl := fun w h => (goodIn_p wsL_law0_r17 [1071, 1075, 1079, 1083, 1087, 1091] (by decide +kernel) (by decide +kernel) w h).1
theorem wsL_law_r18_in : ∀ w ∈ wsL_law0_r18, w ∈ lw_tbl := fun w h => (goodIn_p wsL_law0_r18 [640, 1095, 648, 1099] (by decide +kernel) (by decide +kernel) w h).1
theorem wsL_law_r19_in : ∀ w ∈ wsL_law0_r19, w ∈ lw_tbl := fun w h => (goodIn_p wsL_law0_r19 [656, 1103, 340, 1107, 344] (by decide +kernel) (by decide +kernel) w h).1
theorem wsL_law_r20_in : ∀ w ∈ wsL_law0_r20, w ∈ lw_tbl := fun w h => (goodIn_p wsL_law0_r20 [1111, 348, 352, 356, 360, 364] (by decide +kernel) (by decide +kernel) w h).1
theorem wsL_law_r21_in : ∀ w ∈ wsL_law0_r21, w ∈ lw_tbl := fun w h => (goodIn_p wsL_law0_r21 [368, 372, 376, 380, 384, 388] (by decide +kernel) (by decide +kernel) w h).1
theorem wsL_law_r22_in : ∀ w ∈ wsL_law0_r22, w ∈ lw_tbl := fun w h => (goodIn_p wsL_law0_r22 [392, 396, 1115, 1119, 1123, 1127] (by decide +kernel) (by decide +kernel) w h).1
