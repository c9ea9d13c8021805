theorem wsL_law_r23_in : ∀ w ∈ wsL_law0_r23, w ∈ lw_tbl := fun w h => (goodIn_p wsL_law0_r23 [1131, 1135, 1139, 1143, 1147] (by decide +kernel) (by decide +kernel) w h).1
theorem wsL_law_r24_in : ∀ w ∈ wsL_law0_r24, w ∈ lw_tbl := fun w h => (goodIn_p wsL_law0_r24 [665, 669, 674, 678, 682, 686] (by decide +kernel) (by decide +kernel) w h).1
theorem wsL_law_r25_in : ∀ w ∈ wsL_law0_r25, w ∈ lw_tbl := fun w h => (goodIn_p wsL_law0_r25 [690, 694, 1151, 1155, 1159] (by decide +kernel) (by decide +kernel) w h).1
theorem wsL_law_r26_in : ∀ w ∈ wsL_law0_r26, w ∈ lw_tbl := fun w h => (goodIn_p wsL_law0_r26 [701, 704, 709, 1163, 400, 1167] (by decide +kernel) (by decide +kernel) w h).1
theorem wsL_law_r27_in : ∀ w ∈ wsL_law0_r27, w ∈ lw_tbl := fun w h => (goodIn_p wsL_law0_r27 [716, 719, 408, 1171, 1175] (by decide +kernel) (by decide +kernel) w h).1
theorem wsL_law_r28_in : ∀ w ∈ wsL_law0_r28, w ∈ lw_tbl := fun w h => (goodIn_p wsL_law0_r28 [727, 1179, 735, 1183] (by decide +kernel) (by decide +kernel) w h).1
theorem wsL_law_r29_in : ∀ w ∈ wsL_law0_r29, w ∈ lw_tbl := fun w h => (goodIn_p wsL_law0_r29 [743, 747, 1187, 754, 1191] (by decide +kernel) (by decide +kernel) w h).1
theorem wsL_law_r30_in : ∀ w ∈ wsL_law0_r30, w ∈ lw_tbl := fun w h => (goodIn_p wsL_law0_r30 [761, 1195, 768, 1199, 404] (by decide +kernel) (by decide +kernel) w h).1
theorem wsL_law_r31_in : ∀ w ∈ wsL_law0_r31, w ∈ lw_tbl := fun w h => (goodIn_p wsL_law0_r31 [1203, 776, 780, 786, 1207] (by decide +kernel) (by decide +kernel) w h).1
theorem wsL_law_r32_in : ∀ w ∈ wsL_law0_r32, w ∈ lw_tbl := fun w h => (goodIn_p wsL_law0_r32 [1211, 793, 1215, 800] (by decide +kernel) (by decide +kernel) w h).1
theorem wsL_law_r33_in : ∀ w ∈ wsL_law0_r33, w ∈ lw_tbl := fun w h => (goodIn_p wsL_law0_r33 [1219, 807, 1223, 814, 1227] (by decide +kernel) (by decide +kernel) w h).1
theorem wsL_law_r34_in : ∀ w ∈ wsL_law0_r34, w ∈ lw_tbl := fun w h => (goodIn_p wsL_law0_r34 [821, 825, 1231, 1235] (by decide +kernel) (by decide +kernel) w h).1
theorem wsL_law_r35_in : ∀ w ∈ wsL_law0_r35, w ∈ lw_tbl := fun w h => (goodIn_p wsL_law0_r35 [832, 836, 1239, 843, 847, 851] (by decide +kernel) (by decide +kernel) w h).1
theorem wsL_law_r36_in : ∀ w ∈ wsL_law0_r36, w ∈ lw_tbl := fun w h => (goodIn_p wsL_law0_r36 [855, 1243, 1247, 1251, 862] (by decide +kernel) (by decide +kernel) w h).1
theorem wsL_law_r37_in : ∀ w ∈ wsL_law0_r37, w ∈ lw_tbl := fun w h => (goodIn_p wsL_law0_r37 [866, 870, 1255, 877, 1259] (by decide +kernel) (by decide +kernel) w h).1
theorem wsL_law_r38_in : ∀ w ∈ wsL_law0_r38, w ∈ lw_tbl := fun w h => (goodIn_p wsL_law0_r38 [884, 888, 1263, 1267, 895] (by decide +kernel) (by decide +kernel) w h).1
theorem wsL_law_r39_in : ∀ w ∈ wsL_law0_r39, w ∈ lw_tbl := fun w h => (goodIn_p wsL_law0_r39 [1271, 902, 1275, 412, 1279] (by decide +kernel) (by decide +kernel) w h).1
theorem wsL_law_r40_in : ∀ w ∈ wsL_law0_r40, w ∈ lw_tbl := fun w h => (goodIn_p wsL_law0_r40 [416, 1283, 420, 1287, 424, 1291] (by decide +kernel) (by decide +kernel) w h).1
theorem wsL_law_r41_in : ∀ w ∈ wsL_law0_r41, w ∈ lw_tbl := fun w h => (goodIn_p wsL_law0_r41 [428, 1295, 909, 1299, 1303] (by decide +kernel) (by decide +kernel) w h).1
theorem wsL_law_r42_in : ∀ w ∈ wsL_law0_r42, w ∈ lw_tbl := fun w h => (goodIn_p wsL_law0_r42 [916, 1307, 1311, 923, 1315] (by decide +kernel) (by decide +kernel) w h).1
theorem wsL_law_r43_in : ∀ w ∈ wsL_law0_r43, w ∈ lw_tbl := fun w h => (goodIn_p wsL_law0_r43 [1319, 930, 1323, 1327, 432] (by decide +kernel) (by decide +kernel) w h).1
theorem wsL_law_r44_in : ∀ w ∈ wsL_law0_r44, w ∈ lw_tbl := fun w h => (goodIn_p wsL_law0_r44 [436, 1331] (by decide +kernel) (by decide +kernel) w h).1
