set_option maxRecDepth 20000 in
theorem ggL_grant_X3_grant : GoodIn wsL_grant wsX3_grant := goodIn_ca (goodIn_ca (goodIn_r _ [7, 8, 9, 10, 11, 6, 12, 13, 14, 15, 16, 17, 18, 19, 20, 21, 22, 23, 24, 25, 26, 27, 28, 29, 30, 31, 32, 33, 34, 35, 36, 37, 38, 39, 40, 41, 42, 43, 44, 45, 46, 47, 48, 49, 50, 51, 52, 53, 54, 55, 56, 57, 58, 59, 60, 61, 62, 63, 64, 65, 66, 67, 68, 69, 70, 71, 72, 73, 74, 75, 76, 77, 78, 79, 80, 81, 82, 83, 84, 85, 86, 87, 88, 89, 90, 91, 92, 93, 94, 95, 96, 97, 98, 99, 100, 101, 102, 103, 104, 105, 106, 107, 108, 109, 110, 111, 112, 113, 114, 115, 116, 117, 118, 119, 120, 121, 122, 123, 124, 125, 126, 127, 128, 129, 130, 131, 132, 133, 134, 135, 136, 137, 138, 139] (by decide +kernel) (by decide +kernel)) (goodIn_sub (fun _ h => List.mem_cons_of_mem _ (List.mem_append_left _ (List.mem_append_right _ h))) (by decide +kernel))) (goodIn_sub (fun _ h => List.mem_cons_of_mem _ (List.mem_append_right _ h)) (by decide +kernel))
set_option maxRecDepth 20000 in
theorem gL_grant_X3_grant : GoodIn wsL_grant (wsV RL 7 RX3 yX3_grant wsX3_grant) := goodIn_app (goodIn_of _ (by decide +kernel)) ggL_grant_X3_grant
theorem dL_grant_0 : decode cL_grant 0 = .ok (.aload 5, 2) := by decide +kernel
theorem dL_grant_2 : decode cL_grant 2 = .ok (.iconst 0, 1) := by decide +kernel
theorem dL_grant_3 : decode cL_grant 3 = .ok (.aload_n 0, 1) := by decide +kernel
theorem dL_grant_4 : decode cL_grant 4 = .ok (.iload_n 1, 1) := by decide +kernel
theorem dL_grant_5 : decode cL_grant 5 = .ok (.iload_n 2, 1) := by decide +kernel
theorem dL_grant_6 : decode cL_grant 6 = .ok (.iload_n 3, 1) := by decide +kernel
theorem dL_grant_7 : decode cL_grant 7 = .ok (.iload 4, 2) := by decide +kernel
theorem dL_grant_9 : decode cL_grant 9 = .ok (.invokevirtual 7, 3) := by decide +kernel
theorem dL_grant_12 : decode cL_grant 12 = .ok (.i2l, 1) := by decide +kernel
theorem dL_grant_13 : decode cL_grant 13 = .ok (.lastore, 1) := by decide +kernel
theorem dL_grant_14 : decode cL_grant 14 = .ok (.goto 11, 3) := by decide +kernel
theorem dL_grant_17 : decode cL_grant 17 = .ok (.astore 6, 2) := by decide +kernel
theorem dL_grant_19 : decode cL_grant 19 = .ok (.iconst 1, 1) := by decide +kernel
theorem dL_grant_20 : decode cL_grant 20 = .ok (.ireturn, 1) := by decide +kernel
theorem dL_grant_21 : decode cL_grant 21 = .ok (.astore 6, 2) := by decide +kernel
theorem dL_grant_23 : decode cL_grant 23 = .ok (.iconst 2, 1) := by decide +kernel
theorem dL_grant_24 : decode cL_grant 24 = .ok (.ireturn, 1) := by decide +kernel
theorem dL_grant_25 : decode cL_grant 25 = .ok (.iconst 0, 1) := by decide +kernel
theorem dL_grant_26 : decode cL_grant 26 = .ok (.ireturn, 1) := by decide +kernel
set_option maxRecDepth 20000 in
theorem ggL_raise_X3_raise : GoodIn wsL_raise wsX3_raise := goodIn_ca (goodIn_ca (goodIn_r _ [7, 8, 9, 10, 11, 12, 6, 13, 14, 15, 16, 17, 18, 19, 20, 21, 22, 23, 24, 25, 26, 27, 28, 29, 30, 31, 32, 33, 34, 35, 36, 37, 38, 39, 40, 41, 42, 43, 44, 45, 46, 47, 48, 49, 50, 51, 52, 53, 54, 55, 56, 57, 58, 59, 60, 61, 62, 63, 64, 65, 66, 67, 68, 69, 70, 71, 72, 73, 74, 75, 76, 77, 78, 79, 80, 81, 82, 83, 84, 85, 86, 87, 88, 89, 90, 91, 92, 93, 94, 95, 96] (by decide +kernel) (by decide +kernel)) (goodIn_sub (fun _ h => List.mem_cons_of_mem _ (List.mem_append_left _ (List.mem_append_right _ h))) (by decide +kernel))) (goodIn_sub (fun _ h => List.mem_cons_of_mem _ (List.mem_append_right _ h)) (by decide +kernel))
set_option maxRecDepth 20000 in
theorem gL_raise_X3_raise : GoodIn wsL_raise (wsV RL 17 RX3 yX3_raise wsX3_raise) := goodIn_app (goodIn_of _ (by decide +kernel)) ggL_raise_X3_raise
theorem dL_raise_0 : decode cL_raise 0 = .ok (.aload 5, 2) := by decide +kernel
theorem dL_raise_2 : decode cL_raise 2 = .ok (.iconst 0, 1) := by decide +kernel
theorem dL_raise_3 : decode cL_raise 3 = .ok (.aload_n 0, 1) := by decide +kernel
theorem dL_raise_4 : decode cL_raise 4 = .ok (.iload_n 1, 1) := by decide +kernel
theorem dL_raise_5 : decode cL_raise 5 = .ok (.iload_n 2, 1) := by decide +kernel
theorem dL_raise_6 : decode cL_raise 6 = .ok (.iload_n 3, 1) := by decide +kernel
theorem dL_raise_7 : decode cL_raise 7 = .ok (.iload 4, 2) := by decide +kernel
theorem dL_raise_9 : decode cL_raise 9 = .ok (.invokevirtual 17, 3) := by decide +kernel
theorem dL_raise_12 : decode cL_raise 12 = .ok (.i2l, 1) := by decide +kernel
theorem dL_raise_13 : decode cL_raise 13 = .ok (.lastore, 1) := by decide +kernel
theorem dL_raise_14 : decode cL_raise 14 = .ok (.goto 11, 3) := by decide +kernel
theorem dL_raise_17 : decode cL_raise 17 = .ok (.astore 6, 2) := by decide +kernel
theorem dL_raise_19 : decode cL_raise 19 = .ok (.iconst 1, 1) := by decide +kernel
theorem dL_raise_20 : decode cL_raise 20 = .ok (.ireturn, 1) := by decide +kernel
theorem dL_raise_21 : decode cL_raise 21 = .ok (.astore 6, 2) := by decide +kernel
theorem dL_raise_23 : decode cL_raise 23 = .ok (.iconst 2, 1) := by decide +kernel
theorem dL_raise_24 : decode cL_raise 24 = .ok (.ireturn, 1) := by decide +kernel
theorem dL_raise_25 : decode cL_raise 25 = .ok (.iconst 0, 1) := by decide +kernel
theorem dL_raise_26 : decode cL_raise 26 = .ok (.ireturn, 1) := by decide +kernel
set_option maxRecDepth 20000 in
theorem ggL_flood_X3_flood : GoodIn wsL_flood wsX3_flood := goodIn_ca (goodIn_r _ [6, 7, 8, 9, 10, 5, 11, 12, 13, 14, 15, 16, 17, 18, 19, 20, 21, 22, 23, 24, 25, 26, 27, 28, 29, 30, 31, 32, 33, 34, 35, 36, 37, 38, 39, 40, 41, 42, 43, 44, 45, 46, 47, 48, 49, 50, 51, 52, 53, 54, 55, 56, 57, 58, 59, 60, 61, 62, 63, 64, 65, 66, 67, 68, 69, 70, 71, 72, 73, 74, 75, 76, 77, 78, 79, 80, 81, 82, 83, 84, 85, 86, 87, 88, 89, 90, 91, 92, 93, 94, 95, 96, 97, 98, 99, 100, 101, 102, 103, 104, 105, 106, 107, 108, 109, 110, 111, 112, 113, 114, 115, 116, 117, 118, 119, 120, 121, 122, 123, 124, 125] (by decide +kernel) (by decide +kernel)) (goodIn_sub (fun _ h => List.mem_cons_of_mem _ (List.mem_append_right _ h)) (by decide +kernel))
set_option maxRecDepth 20000 in
theorem gL_flood_X3_flood : GoodIn wsL_flood (wsV RL 20 RX3 yX3_flood wsX3_flood) := goodIn_app (goodIn_of _ (by decide +kernel)) ggL_flood_X3_flood
theorem dL_flood_0 : decode cL_flood 0 = .ok (.aload_n 2, 1) := by decide +kernel
theorem dL_flood_1 : decode cL_flood 1 = .ok (.iconst 0, 1) := by decide +kernel
theorem dL_flood_2 : decode cL_flood 2 = .ok (.aload_n 0, 1) := by decide +kernel
theorem dL_flood_3 : decode cL_flood 3 = .ok (.iload_n 1, 1) := by decide +kernel
theorem dL_flood_4 : decode cL_flood 4 = .ok (.invokevirtual 20, 3) := by decide +kernel
theorem dL_flood_7 : decode cL_flood 7 = .ok (.i2l, 1) := by decide +kernel
theorem dL_flood_8 : decode cL_flood 8 = .ok (.lastore, 1) := by decide +kernel
theorem dL_flood_9 : decode cL_flood 9 = .ok (.goto 6, 3) := by decide +kernel
theorem dL_flood_12 : decode cL_flood 12 = .ok (.astore_n 3, 1) := by decide +kernel
theorem dL_flood_13 : decode cL_flood 13 = .ok (.iconst 1, 1) := by decide +kernel
theorem dL_flood_14 : decode cL_flood 14 = .ok (.ireturn, 1) := by decide +kernel
theorem dL_flood_15 : decode cL_flood 15 = .ok (.iconst 0, 1) := by decide +kernel
theorem dL_flood_16 : decode cL_flood 16 = .ok (.ireturn, 1) := by decide +kernel
set_option maxRecDepth 20000 in
theorem ggL_buyPlot_X3_buyPlot : GoodIn wsL_buyPlot wsX3_buyPlot := goodIn_ca (goodIn_ca (goodIn_r _ [7, 8, 9, 10, 11, 6, 12, 13, 14, 15, 16, 17, 18, 19, 20, 21, 22, 23, 24, 25, 26, 27, 28, 29, 30, 31, 32, 33, 34, 35, 36, 37, 38, 39, 40, 41, 42, 43, 44, 45, 46, 47, 48, 49, 50, 51, 52, 53, 54, 55, 56, 57, 58, 59, 60, 61, 62, 63, 64, 65, 66, 67, 68, 69, 70, 71, 72, 73, 74, 75, 76, 77, 78, 79, 80, 81, 82, 83, 84, 85, 86, 87, 88, 89, 90, 91, 92, 93, 94, 95, 96, 97, 98, 99, 100, 101, 102, 103, 104, 105, 106, 107, 108, 109, 110, 111, 112, 113, 114, 115, 116, 117, 118, 119, 120, 121, 122, 123, 124, 125, 126, 127, 128, 129, 130, 131, 132, 133, 134, 135, 136, 137, 138, 139, 140, 141, 142, 143, 144, 145, 146, 147, 148, 149, 150, 151, 152, 153, 154, 155, 156, 157, 158, 159, 160, 161, 162, 163, 164, 165, 166, 167, 168, 169, 170, 171, 172, 173, 174, 175, 176, 177] (by decide +kernel) (by decide +kernel)) (goodIn_sub (fun _ h => List.mem_cons_of_mem _ (List.mem_append_left _ (List.mem_append_right _ h))) (by decide +kernel))) (goodIn_sub (fun _ h => List.mem_cons_of_mem _ (List.mem_append_right _ h)) (by decide +kernel))
set_option maxRecDepth 20000 in
theorem gL_buyPlot_X3_buyPlot : GoodIn wsL_buyPlot (wsV RL 24 RX3 yX3_buyPlot wsX3_buyPlot) := goodIn_app (goodIn_of _ (by decide +kernel)) ggL_buyPlot_X3_buyPlot
theorem dL_buyPlot_0 : decode cL_buyPlot 0 = .ok (.aload 4, 2) := by decide +kernel
theorem dL_buyPlot_2 : decode cL_buyPlot 2 = .ok (.iconst 0, 1) := by decide +kernel
theorem dL_buyPlot_3 : decode cL_buyPlot 3 = .ok (.aload_n 0, 1) := by decide +kernel
theorem dL_buyPlot_4 : decode cL_buyPlot 4 = .ok (.iload_n 1, 1) := by decide +kernel
theorem dL_buyPlot_5 : decode cL_buyPlot 5 = .ok (.iload_n 2, 1) := by decide +kernel
theorem dL_buyPlot_6 : decode cL_buyPlot 6 = .ok (.iload_n 3, 1) := by decide +kernel
theorem dL_buyPlot_7 : decode cL_buyPlot 7 = .ok (.invokevirtual 24, 3) := by decide +kernel
theorem dL_buyPlot_10 : decode cL_buyPlot 10 = .ok (.i2l, 1) := by decide +kernel
theorem dL_buyPlot_11 : decode cL_buyPlot 11 = .ok (.lastore, 1) := by decide +kernel
theorem dL_buyPlot_12 : decode cL_buyPlot 12 = .ok (.goto 11, 3) := by decide +kernel
theorem dL_buyPlot_15 : decode cL_buyPlot 15 = .ok (.astore 5, 2) := by decide +kernel
theorem dL_buyPlot_17 : decode cL_buyPlot 17 = .ok (.iconst 1, 1) := by decide +kernel
theorem dL_buyPlot_18 : decode cL_buyPlot 18 = .ok (.ireturn, 1) := by decide +kernel
theorem dL_buyPlot_19 : decode cL_buyPlot 19 = .ok (.astore 5, 2) := by decide +kernel
theorem dL_buyPlot_21 : decode cL_buyPlot 21 = .ok (.iconst 2, 1) := by decide +kernel
theorem dL_buyPlot_22 : decode cL_buyPlot 22 = .ok (.ireturn, 1) := by decide +kernel
theorem dL_buyPlot_23 : decode cL_buyPlot 23 = .ok (.iconst 0, 1) := by decide +kernel
theorem dL_buyPlot_24 : decode cL_buyPlot 24 = .ok (.ireturn, 1) := by decide +kernel
set_option maxRecDepth 20000 in
theorem ggL_buySquare_X3_buySquare : GoodIn wsL_buySquare wsX3_buySquare := goodIn_ca (goodIn_ca (goodIn_ca (goodIn_r _ [8, 9, 10, 11, 12, 7, 13, 14, 15, 16, 17, 18, 19, 20, 21, 22, 23, 24, 25, 26, 27, 28, 29, 30, 31, 32, 33, 34, 35, 36, 37, 38, 39, 40, 41, 42, 43, 44, 45, 46, 47, 48, 49, 50, 51, 52, 53, 54, 55, 56, 57, 58, 59, 60, 61, 62, 63, 64, 65, 66, 67, 68, 69, 70, 71, 72, 73, 74, 75, 76, 77, 78, 79, 80, 81, 82, 83, 84, 85, 86, 87, 88, 89, 90, 91, 92, 93, 94, 95, 96, 97, 98, 99, 100, 101, 102, 103, 104, 105, 106, 107, 108, 109, 110, 111, 112, 113, 114, 115, 116, 117, 118, 119, 120, 121, 122, 123, 124, 125, 126, 127, 128, 129, 130, 131, 132, 133, 134, 135, 136, 137, 138, 139, 140, 141, 142, 143, 144, 145, 146, 147, 148, 149, 150, 151, 152, 153, 154, 155, 156, 157, 158, 159, 160, 161, 162, 163, 164, 165, 166, 167] (by decide +kernel) (by decide +kernel)) (goodIn_sub (fun _ h => List.mem_cons_of_mem _ (List.mem_append_left _ (List.mem_append_left _ (List.mem_append_right _ h)))) (by decide +kernel))) (goodIn_sub (fun _ h => List.mem_cons_of_mem _ (List.mem_append_left _ (List.mem_append_right _ h))) (by decide +kernel))) (goodIn_sub (fun _ h => List.mem_cons_of_mem _ (List.mem_append_right _ h)) (by decide +kernel))
set_option maxRecDepth 20000 in
theorem gL_buySquare_X3_buySquare : GoodIn wsL_buySquare (wsV RL 30 RX3 yX3_buySquare wsX3_buySquare) := goodIn_app (goodIn_of _ (by decide +kernel)) ggL_buySquare_X3_buySquare
theorem dL_buySquare_0 : decode cL_buySquare 0 = .ok (.aload 5, 2) := by decide +kernel
theorem dL_buySquare_2 : decode cL_buySquare 2 = .ok (.iconst 0, 1) := by decide +kernel
theorem dL_buySquare_3 : decode cL_buySquare 3 = .ok (.aload_n 0, 1) := by decide +kernel
theorem dL_buySquare_4 : decode cL_buySquare 4 = .ok (.iload_n 1, 1) := by decide +kernel
theorem dL_buySquare_5 : decode cL_buySquare 5 = .ok (.iload_n 2, 1) := by decide +kernel
theorem dL_buySquare_6 : decode cL_buySquare 6 = .ok (.iload_n 3, 1) := by decide +kernel
theorem dL_buySquare_7 : decode cL_buySquare 7 = .ok (.iload 4, 2) := by decide +kernel
theorem dL_buySquare_9 : decode cL_buySquare 9 = .ok (.invokevirtual 30, 3) := by decide +kernel
theorem dL_buySquare_12 : decode cL_buySquare 12 = .ok (.i2l, 1) := by decide +kernel
theorem dL_buySquare_13 : decode cL_buySquare 13 = .ok (.lastore, 1) := by decide +kernel
theorem dL_buySquare_14 : decode cL_buySquare 14 = .ok (.goto 15, 3) := by decide +kernel
theorem dL_buySquare_17 : decode cL_buySquare 17 = .ok (.astore 6, 2) := by decide +kernel
theorem dL_buySquare_19 : decode cL_buySquare 19 = .ok (.iconst 1, 1) := by decide +kernel
theorem dL_buySquare_20 : decode cL_buySquare 20 = .ok (.ireturn, 1) := by decide +kernel
theorem dL_buySquare_21 : decode cL_buySquare 21 = .ok (.astore 6, 2) := by decide +kernel
theorem dL_buySquare_23 : decode cL_buySquare 23 = .ok (.iconst 2, 1) := by decide +kernel
theorem dL_buySquare_24 : decode cL_buySquare 24 = .ok (.ireturn, 1) := by decide +kernel
theorem dL_buySquare_25 : decode cL_buySquare 25 = .ok (.astore 6, 2) := by decide +kernel
theorem dL_buySquare_27 : decode cL_buySquare 27 = .ok (.iconst 3, 1) := by decide +kernel
theorem dL_buySquare_28 : decode cL_buySquare 28 = .ok (.ireturn, 1) := by decide +kernel
theorem dL_buySquare_29 : decode cL_buySquare 29 = .ok (.iconst 0, 1) := by decide +kernel
theorem dL_buySquare_30 : decode cL_buySquare 30 = .ok (.ireturn, 1) := by decide +kernel
set_option maxRecDepth 20000 in
theorem ggL_setPrice_X3_setPrice : GoodIn wsL_setPrice wsX3_setPrice := goodIn_ca (goodIn_r _ [6, 7, 8, 9, 10, 11, 12, 5, 13, 14, 15, 16, 17, 18, 19, 20, 21, 22, 23, 24, 25, 26, 27, 28, 29, 30, 31, 32, 33, 34, 35, 36, 37, 38, 39, 40, 41, 42, 43, 44, 45, 46, 47, 48, 49, 50, 51, 52, 53, 54, 55, 56, 57, 58, 59, 60, 61, 62, 63, 64, 65, 66, 67, 68, 69, 70] (by decide +kernel) (by decide +kernel)) (goodIn_sub (fun _ h => List.mem_cons_of_mem _ (List.mem_append_right _ h)) (by decide +kernel))
set_option maxRecDepth 20000 in
theorem gL_setPrice_X3_setPrice : GoodIn wsL_setPrice (wsV RL 33 RX3 yX3_setPrice wsX3_setPrice) := goodIn_app (goodIn_of _ (by decide +kernel)) ggL_setPrice_X3_setPrice
theorem dL_setPrice_0 : decode cL_setPrice 0 = .ok (.aload_n 2, 1) := by decide +kernel
theorem dL_setPrice_1 : decode cL_setPrice 1 = .ok (.iconst 0, 1) := by decide +kernel
theorem dL_setPrice_2 : decode cL_setPrice 2 = .ok (.aload_n 0, 1) := by decide +kernel
theorem dL_setPrice_3 : decode cL_setPrice 3 = .ok (.iload_n 1, 1) := by decide +kernel
theorem dL_setPrice_4 : decode cL_setPrice 4 = .ok (.invokevirtual 33, 3) := by decide +kernel
theorem dL_setPrice_7 : decode cL_setPrice 7 = .ok (.i2l, 1) := by decide +kernel
theorem dL_setPrice_8 : decode cL_setPrice 8 = .ok (.lastore, 1) := by decide +kernel
theorem dL_setPrice_9 : decode cL_setPrice 9 = .ok (.goto 6, 3) := by decide +kernel
theorem dL_setPrice_12 : decode cL_setPrice 12 = .ok (.astore_n 3, 1) := by decide +kernel
theorem dL_setPrice_13 : decode cL_setPrice 13 = .ok (.iconst 1, 1) := by decide +kernel
theorem dL_setPrice_14 : decode cL_setPrice 14 = .ok (.ireturn, 1) := by decide +kernel
theorem dL_setPrice_15 : decode cL_setPrice 15 = .ok (.iconst 0, 1) := by decide +kernel
theorem dL_setPrice_16 : decode cL_setPrice 16 = .ok (.ireturn, 1) := by decide +kernel
set_option maxRecDepth 20000 in
theorem ggL_setTax_X3_setTax : GoodIn wsL_setTax wsX3_setTax := goodIn_ca (goodIn_r _ [6, 7, 8, 9, 10, 11, 12, 5, 13, 14, 15, 16, 17, 18, 19, 20, 21, 22, 23, 24, 25, 26, 27, 28, 29, 30, 31, 32, 33, 34, 35, 36, 37, 38, 39, 40, 41, 42, 43, 44, 45, 46, 47, 48, 49, 50, 51, 52, 53, 54, 55, 56, 57, 58, 59, 60, 61, 62, 63, 64, 65, 66, 67, 68, 69, 70] (by decide +kernel) (by decide +kernel)) (goodIn_sub (fun _ h => List.mem_cons_of_mem _ (List.mem_append_right _ h)) (by decide +kernel))
set_option maxRecDepth 20000 in
theorem gL_setTax_X3_setTax : GoodIn wsL_setTax (wsV RL 36 RX3 yX3_setTax wsX3_setTax) := goodIn_app (goodIn_of _ (by decide +kernel)) ggL_setTax_X3_setTax
theorem dL_setTax_0 : decode cL_setTax 0 = .ok (.aload_n 2, 1) := by decide +kernel
theorem dL_setTax_1 : decode cL_setTax 1 = .ok (.iconst 0, 1) := by decide +kernel
theorem dL_setTax_2 : decode cL_setTax 2 = .ok (.aload_n 0, 1) := by decide +kernel
theorem dL_setTax_3 : decode cL_setTax 3 = .ok (.iload_n 1, 1) := by decide +kernel
theorem dL_setTax_4 : decode cL_setTax 4 = .ok (.invokevirtual 36, 3) := by decide +kernel
theorem dL_setTax_7 : decode cL_setTax 7 = .ok (.i2l, 1) := by decide +kernel
theorem dL_setTax_8 : decode cL_setTax 8 = .ok (.lastore, 1) := by decide +kernel
theorem dL_setTax_9 : decode cL_setTax 9 = .ok (.goto 6, 3) := by decide +kernel
theorem dL_setTax_12 : decode cL_setTax 12 = .ok (.astore_n 3, 1) := by decide +kernel
theorem dL_setTax_13 : decode cL_setTax 13 = .ok (.iconst 1, 1) := by decide +kernel
theorem dL_setTax_14 : decode cL_setTax 14 = .ok (.ireturn, 1) := by decide +kernel
theorem dL_setTax_15 : decode cL_setTax 15 = .ok (.iconst 0, 1) := by decide +kernel
theorem dL_setTax_16 : decode cL_setTax 16 = .ok (.ireturn, 1) := by decide +kernel
set_option maxRecDepth 20000 in
theorem ggL_append_X3_append : GoodIn wsL_append wsX3_append := goodIn_ca (goodIn_ca (goodIn_r _ [7, 8, 9, 10, 11, 12, 13, 14, 15, 16, 17, 18, 19, 20, 21, 22] (by decide +kernel) (by decide +kernel)) (goodIn_sub (fun _ h => List.mem_cons_of_mem _ (List.mem_append_left _ (List.mem_append_right _ h))) (by decide +kernel))) (goodIn_sub (fun _ h => List.mem_cons_of_mem _ (List.mem_append_right _ h)) (by decide +kernel))
set_option maxRecDepth 20000 in
theorem gL_append_X3_append : GoodIn wsL_append (wsV RL 39 RX3 yX3_append wsX3_append) := goodIn_app (goodIn_of _ (by decide +kernel)) ggL_append_X3_append
theorem dL_append_0 : decode cL_append 0 = .ok (.aload_n 2, 1) := by decide +kernel
theorem dL_append_1 : decode cL_append 1 = .ok (.iconst 0, 1) := by decide +kernel
theorem dL_append_2 : decode cL_append 2 = .ok (.aload_n 0, 1) := by decide +kernel
theorem dL_append_3 : decode cL_append 3 = .ok (.iload_n 1, 1) := by decide +kernel
theorem dL_append_4 : decode cL_append 4 = .ok (.invokevirtual 39, 3) := by decide +kernel
theorem dL_append_7 : decode cL_append 7 = .ok (.i2l, 1) := by decide +kernel
theorem dL_append_8 : decode cL_append 8 = .ok (.lastore, 1) := by decide +kernel
theorem dL_append_9 : decode cL_append 9 = .ok (.goto 9, 3) := by decide +kernel
theorem dL_append_12 : decode cL_append 12 = .ok (.astore_n 3, 1) := by decide +kernel
theorem dL_append_13 : decode cL_append 13 = .ok (.iconst 1, 1) := by decide +kernel
theorem dL_append_14 : decode cL_append 14 = .ok (.ireturn, 1) := by decide +kernel
theorem dL_append_15 : decode cL_append 15 = .ok (.astore_n 3, 1) := by decide +kernel
theorem dL_append_16 : decode cL_append 16 = .ok (.iconst 2, 1) := by decide +kernel
theorem dL_append_17 : decode cL_append 17 = .ok (.ireturn, 1) := by decide +kernel
theorem dL_append_18 : decode cL_append 18 = .ok (.iconst 0, 1) := by decide +kernel
theorem dL_append_19 : decode cL_append 19 = .ok (.ireturn, 1) := by decide +kernel
set_option maxRecDepth 20000 in
theorem ggL_carryOut_X3_carryOut : GoodIn wsL_carryOut wsX3_carryOut := goodIn_ca (goodIn_r _ [6, 7, 8, 9, 10, 11, 12, 13, 5, 14, 15, 16, 17, 18, 19, 20, 21, 22, 23, 24, 25, 26, 27, 28, 29, 30, 31, 32, 33, 34, 35, 36, 37, 38, 39, 40, 41, 42, 43, 44, 45, 46, 47, 48, 49, 50, 51, 52, 53, 54, 55, 56, 57, 58, 59, 60, 61, 62, 63, 64, 65, 66, 67, 68, 69, 70, 71, 72, 73, 74, 75, 76, 77, 78, 79, 80, 81, 82, 83, 84, 85, 86, 87, 88, 89, 90, 91, 92, 93, 94, 95, 96, 97, 98, 99, 100, 101, 102, 103, 104, 105, 106, 107, 108, 109, 110, 111, 112, 113, 114, 115, 116, 117, 118, 119, 120, 121, 122, 123, 124, 125, 126, 127, 128, 129, 130, 131, 132, 133, 134, 135, 136, 137, 138, 139, 140, 141, 142, 143, 144, 145, 146, 147, 148, 149, 150, 151, 152, 153, 154, 155, 156, 157, 158, 159, 160, 161, 162, 163, 164, 165, 166, 167, 168, 169, 170, 171, 172, 173, 174, 175, 176, 177, 178, 179, 180, 181, 182, 183, 184, 185, 186, 187, 188, 189, 190, 191, 192, 193, 194, 195, 196, 197, 198, 199, 200, 201, 202, 203, 204, 205, 206, 207, 208, 209, 210, 211, 212, 213, 214, 215, 216, 217, 218, 219, 220, 221, 222, 223, 224, 225, 226, 227, 228, 229, 230, 231, 232, 233, 234, 235, 236, 237, 238, 239, 240, 241, 242, 243, 244, 245, 246, 247, 248, 249, 250, 251, 252, 253, 254, 255, 256, 257, 258, 259, 260, 261, 262, 263, 264, 265, 266, 267, 268, 269, 270, 271, 272, 273, 274, 275, 276, 277, 278, 279, 280, 281, 282, 283, 284, 285, 286, 287, 288, 289, 290, 291, 292, 293, 294, 295, 296, 297, 298, 299, 300] (by decide +kernel) (by decide +kernel)) (goodIn_sub (fun _ h => List.mem_cons_of_mem _ (List.mem_append_right _ h)) (by decide +kernel))
set_option maxRecDepth 20000 in
theorem gL_carryOut_X3_carryOut : GoodIn wsL_carryOut (wsV RL 42 RX3 yX3_carryOut wsX3_carryOut) := goodIn_app (goodIn_of _ (by decide +kernel)) ggL_carryOut_X3_carryOut
theorem dL_carryOut_0 : decode cL_carryOut 0 = .ok (.aload_n 1, 1) := by decide +kernel
theorem dL_carryOut_1 : decode cL_carryOut 1 = .ok (.iconst 0, 1) := by decide +kernel
theorem dL_carryOut_2 : decode cL_carryOut 2 = .ok (.aload_n 0, 1) := by decide +kernel
theorem dL_carryOut_3 : decode cL_carryOut 3 = .ok (.invokevirtual 42, 3) := by decide +kernel
theorem dL_carryOut_6 : decode cL_carryOut 6 = .ok (.i2l, 1) := by decide +kernel
theorem dL_carryOut_7 : decode cL_carryOut 7 = .ok (.lastore, 1) := by decide +kernel
theorem dL_carryOut_8 : decode cL_carryOut 8 = .ok (.goto 6, 3) := by decide +kernel
theorem dL_carryOut_11 : decode cL_carryOut 11 = .ok (.astore_n 2, 1) := by decide +kernel
theorem dL_carryOut_12 : decode cL_carryOut 12 = .ok (.iconst 1, 1) := by decide +kernel
theorem dL_carryOut_13 : decode cL_carryOut 13 = .ok (.ireturn, 1) := by decide +kernel
theorem dL_carryOut_14 : decode cL_carryOut 14 = .ok (.iconst 0, 1) := by decide +kernel
theorem dL_carryOut_15 : decode cL_carryOut 15 = .ok (.ireturn, 1) := by decide +kernel
set_option maxRecDepth 20000 in
theorem ggL_undo_X3_undo : GoodIn wsL_undo wsX3_undo := goodIn_ca (goodIn_r _ [6, 7, 8, 9, 10, 11, 12, 5, 13, 14, 15, 16, 17, 18, 19, 20, 21, 22, 23, 24, 25, 26, 27, 28, 29, 30, 31, 32, 33, 34, 35, 36, 37, 38, 39, 40, 41, 42, 43, 44, 45, 46, 47, 48, 49, 50, 51, 52, 53, 54, 55, 56, 57, 58, 59, 60, 61, 62, 63, 64, 65, 66, 67, 68, 69, 70, 71, 72, 73, 74, 75, 76, 77, 78, 79, 80, 81, 82, 83, 84, 85, 86, 87, 88, 89, 90, 91, 92, 93, 94, 95, 96, 97, 98, 99, 100, 101, 102, 103] (by decide +kernel) (by decide +kernel)) (goodIn_sub (fun _ h => List.mem_cons_of_mem _ (List.mem_append_right _ h)) (by decide +kernel))
set_option maxRecDepth 20000 in
theorem gL_undo_X3_undo : GoodIn wsL_undo (wsV RL 46 RX3 yX3_undo wsX3_undo) := goodIn_app (goodIn_of _ (by decide +kernel)) ggL_undo_X3_undo
theorem dL_undo_0 : decode cL_undo 0 = .ok (.aload_n 1, 1) := by decide +kernel
theorem dL_undo_1 : decode cL_undo 1 = .ok (.iconst 0, 1) := by decide +kernel
theorem dL_undo_2 : decode cL_undo 2 = .ok (.aload_n 0, 1) := by decide +kernel
theorem dL_undo_3 : decode cL_undo 3 = .ok (.invokevirtual 46, 3) := by decide +kernel
theorem dL_undo_6 : decode cL_undo 6 = .ok (.i2l, 1) := by decide +kernel
theorem dL_undo_7 : decode cL_undo 7 = .ok (.lastore, 1) := by decide +kernel
theorem dL_undo_8 : decode cL_undo 8 = .ok (.goto 6, 3) := by decide +kernel
theorem dL_undo_11 : decode cL_undo 11 = .ok (.astore_n 2, 1) := by decide +kernel
theorem dL_undo_12 : decode cL_undo 12 = .ok (.iconst 1, 1) := by decide +kernel
theorem dL_undo_13 : decode cL_undo 13 = .ok (.ireturn, 1) := by decide +kernel
theorem dL_undo_14 : decode cL_undo 14 = .ok (.iconst 0, 1) := by decide +kernel
theorem dL_undo_15 : decode cL_undo 15 = .ok (.ireturn, 1) := by decide +kernel
set_option maxRecDepth 20000 in
theorem ggL_keep_X3_keep : GoodIn wsL_keep wsX3_keep := goodIn_ca (goodIn_r _ [6, 7, 8, 9, 10, 5, 11, 12, 13, 14, 15, 16, 17, 18, 19, 20, 21, 22, 23, 24, 25, 26, 27, 28, 29, 30, 31, 32, 33, 34, 35, 36, 37, 38, 39, 40, 41, 42, 43, 44, 45, 46, 47, 48, 49, 50, 51, 52, 53, 54, 55, 56, 57, 58, 59, 60, 61, 62, 63, 64, 65, 66, 67, 68, 69, 70, 71, 72, 73, 74, 75, 76, 77, 78] (by decide +kernel) (by decide +kernel)) (goodIn_sub (fun _ h => List.mem_cons_of_mem _ (List.mem_append_right _ h)) (by decide +kernel))
set_option maxRecDepth 20000 in
theorem gL_keep_X3_keep : GoodIn wsL_keep (wsV RL 49 RX3 yX3_keep wsX3_keep) := goodIn_app (goodIn_of _ (by decide +kernel)) ggL_keep_X3_keep
theorem dL_keep_0 : decode cL_keep 0 = .ok (.aload_n 2, 1) := by decide +kernel
theorem dL_keep_1 : decode cL_keep 1 = .ok (.iconst 0, 1) := by decide +kernel
theorem dL_keep_2 : decode cL_keep 2 = .ok (.aload_n 0, 1) := by decide +kernel
theorem dL_keep_3 : decode cL_keep 3 = .ok (.iload_n 1, 1) := by decide +kernel
theorem dL_keep_4 : decode cL_keep 4 = .ok (.invokevirtual 49, 3) := by decide +kernel
theorem dL_keep_7 : decode cL_keep 7 = .ok (.i2l, 1) := by decide +kernel
theorem dL_keep_8 : decode cL_keep 8 = .ok (.lastore, 1) := by decide +kernel
theorem dL_keep_9 : decode cL_keep 9 = .ok (.goto 6, 3) := by decide +kernel
theorem dL_keep_12 : decode cL_keep 12 = .ok (.astore_n 3, 1) := by decide +kernel
theorem dL_keep_13 : decode cL_keep 13 = .ok (.iconst 1, 1) := by decide +kernel
theorem dL_keep_14 : decode cL_keep 14 = .ok (.ireturn, 1) := by decide +kernel
theorem dL_keep_15 : decode cL_keep 15 = .ok (.iconst 0, 1) := by decide +kernel
theorem dL_keep_16 : decode cL_keep 16 = .ok (.ireturn, 1) := by decide +kernel
set_option maxRecDepth 20000 in
theorem ggL_goBack_X3_goBack : GoodIn wsL_goBack wsX3_goBack := goodIn_ca (goodIn_ca (goodIn_r _ [7, 8, 9, 10, 11, 12, 13, 6, 14, 15, 16, 17, 18, 19, 20, 21, 22, 23, 24, 25, 26, 27, 28, 29, 30, 31, 32, 33, 34, 35, 36, 37, 38, 39, 40, 41, 42, 43, 44, 45, 46, 47, 48, 49, 50, 51, 52, 53, 54, 55, 56, 57, 58, 59, 60, 61, 62, 63, 64, 65, 66, 67, 68, 69, 70, 71, 72, 73, 74, 75, 76, 77, 78, 79, 80, 81, 82, 83, 84, 85, 86, 87, 88, 89, 90, 91, 92, 93, 94, 95, 96, 97, 98, 99, 100, 101, 102, 103, 104, 105, 106, 107, 108, 109, 110, 111, 112, 113, 114, 115, 116, 117, 118, 119, 120, 121, 122, 123, 124, 125, 126, 127, 128, 129, 130, 131, 132, 133, 134, 135, 136] (by decide +kernel) (by decide +kernel)) (goodIn_sub (fun _ h => List.mem_cons_of_mem _ (List.mem_append_left _ (List.mem_append_right _ h))) (by decide +kernel))) (goodIn_sub (fun _ h => List.mem_cons_of_mem _ (List.mem_append_right _ h)) (by decide +kernel))
set_option maxRecDepth 20000 in
theorem gL_goBack_X3_goBack : GoodIn wsL_goBack (wsV RL 52 RX3 yX3_goBack wsX3_goBack) := goodIn_app (goodIn_of _ (by decide +kernel)) ggL_goBack_X3_goBack
theorem dL_goBack_0 : decode cL_goBack 0 = .ok (.aload_n 2, 1) := by decide +kernel
theorem dL_goBack_1 : decode cL_goBack 1 = .ok (.iconst 0, 1) := by decide +kernel
theorem dL_goBack_2 : decode cL_goBack 2 = .ok (.aload_n 0, 1) := by decide +kernel
theorem dL_goBack_3 : decode cL_goBack 3 = .ok (.iload_n 1, 1) := by decide +kernel
theorem dL_goBack_4 : decode cL_goBack 4 = .ok (.invokevirtual 52, 3) := by decide +kernel
theorem dL_goBack_7 : decode cL_goBack 7 = .ok (.i2l, 1) := by decide +kernel
theorem dL_goBack_8 : decode cL_goBack 8 = .ok (.lastore, 1) := by decide +kernel
theorem dL_goBack_9 : decode cL_goBack 9 = .ok (.goto 9, 3) := by decide +kernel
theorem dL_goBack_12 : decode cL_goBack 12 = .ok (.astore_n 3, 1) := by decide +kernel
theorem dL_goBack_13 : decode cL_goBack 13 = .ok (.iconst 1, 1) := by decide +kernel
theorem dL_goBack_14 : decode cL_goBack 14 = .ok (.ireturn, 1) := by decide +kernel
theorem dL_goBack_15 : decode cL_goBack 15 = .ok (.astore_n 3, 1) := by decide +kernel
theorem dL_goBack_16 : decode cL_goBack 16 = .ok (.iconst 2, 1) := by decide +kernel
theorem dL_goBack_17 : decode cL_goBack 17 = .ok (.ireturn, 1) := by decide +kernel
theorem dL_goBack_18 : decode cL_goBack 18 = .ok (.iconst 0, 1) := by decide +kernel
theorem dL_goBack_19 : decode cL_goBack 19 = .ok (.ireturn, 1) := by decide +kernel
set_option maxRecDepth 20000 in
theorem ggL_ownerAt_X3_ownerAt : GoodIn wsL_ownerAt wsX3_ownerAt := goodIn_ca (goodIn_r _ [6, 7, 8, 9, 5, 10, 11, 12, 13, 14, 15, 16, 17, 18, 19, 20, 21, 22, 23, 24, 25, 26, 27, 28, 29, 30, 31, 32, 33, 34, 35, 36, 37, 38] (by decide +kernel) (by decide +kernel)) (goodIn_sub (fun _ h => List.mem_cons_of_mem _ (List.mem_append_right _ h)) (by decide +kernel))
set_option maxRecDepth 20000 in
theorem gL_ownerAt_X3_ownerAt : GoodIn wsL_ownerAt (wsV RL 55 RX3 yX3_ownerAt wsX3_ownerAt) := goodIn_app (goodIn_of _ (by decide +kernel)) ggL_ownerAt_X3_ownerAt
theorem dL_ownerAt_0 : decode cL_ownerAt 0 = .ok (.aload_n 3, 1) := by decide +kernel
theorem dL_ownerAt_1 : decode cL_ownerAt 1 = .ok (.iconst 0, 1) := by decide +kernel
theorem dL_ownerAt_2 : decode cL_ownerAt 2 = .ok (.aload_n 0, 1) := by decide +kernel
theorem dL_ownerAt_3 : decode cL_ownerAt 3 = .ok (.iload_n 1, 1) := by decide +kernel
theorem dL_ownerAt_4 : decode cL_ownerAt 4 = .ok (.iload_n 2, 1) := by decide +kernel
theorem dL_ownerAt_5 : decode cL_ownerAt 5 = .ok (.invokevirtual 55, 3) := by decide +kernel
theorem dL_ownerAt_8 : decode cL_ownerAt 8 = .ok (.i2l, 1) := by decide +kernel
theorem dL_ownerAt_9 : decode cL_ownerAt 9 = .ok (.lastore, 1) := by decide +kernel
theorem dL_ownerAt_10 : decode cL_ownerAt 10 = .ok (.goto 7, 3) := by decide +kernel
theorem dL_ownerAt_13 : decode cL_ownerAt 13 = .ok (.astore 4, 2) := by decide +kernel
theorem dL_ownerAt_15 : decode cL_ownerAt 15 = .ok (.iconst 1, 1) := by decide +kernel
theorem dL_ownerAt_16 : decode cL_ownerAt 16 = .ok (.ireturn, 1) := by decide +kernel
theorem dL_ownerAt_17 : decode cL_ownerAt 17 = .ok (.iconst 0, 1) := by decide +kernel
theorem dL_ownerAt_18 : decode cL_ownerAt 18 = .ok (.ireturn, 1) := by decide +kernel
set_option maxRecDepth 20000 in
theorem ggL_heightAt_X3_heightAt : GoodIn wsL_heightAt wsX3_heightAt := goodIn_ca (goodIn_r _ [6, 7, 8, 9, 5, 10, 11, 12, 13, 14, 15, 16, 17, 18, 19, 20, 21, 22, 23, 24, 25, 26, 27, 28, 29, 30, 31, 32, 33, 34, 35, 36, 37, 38] (by decide +kernel) (by decide +kernel)) (goodIn_sub (fun _ h => List.mem_cons_of_mem _ (List.mem_append_right _ h)) (by decide +kernel))
set_option maxRecDepth 20000 in
theorem gL_heightAt_X3_heightAt : GoodIn wsL_heightAt (wsV RL 59 RX3 yX3_heightAt wsX3_heightAt) := goodIn_app (goodIn_of _ (by decide +kernel)) ggL_heightAt_X3_heightAt
theorem dL_heightAt_0 : decode cL_heightAt 0 = .ok (.aload_n 3, 1) := by decide +kernel
theorem dL_heightAt_1 : decode cL_heightAt 1 = .ok (.iconst 0, 1) := by decide +kernel
theorem dL_heightAt_2 : decode cL_heightAt 2 = .ok (.aload_n 0, 1) := by decide +kernel
theorem dL_heightAt_3 : decode cL_heightAt 3 = .ok (.iload_n 1, 1) := by decide +kernel
theorem dL_heightAt_4 : decode cL_heightAt 4 = .ok (.iload_n 2, 1) := by decide +kernel
theorem dL_heightAt_5 : decode cL_heightAt 5 = .ok (.invokevirtual 59, 3) := by decide +kernel
theorem dL_heightAt_8 : decode cL_heightAt 8 = .ok (.i2l, 1) := by decide +kernel
theorem dL_heightAt_9 : decode cL_heightAt 9 = .ok (.lastore, 1) := by decide +kernel
theorem dL_heightAt_10 : decode cL_heightAt 10 = .ok (.goto 7, 3) := by decide +kernel
theorem dL_heightAt_13 : decode cL_heightAt 13 = .ok (.astore 4, 2) := by decide +kernel
theorem dL_heightAt_15 : decode cL_heightAt 15 = .ok (.iconst 1, 1) := by decide +kernel
theorem dL_heightAt_16 : decode cL_heightAt 16 = .ok (.ireturn, 1) := by decide +kernel
theorem dL_heightAt_17 : decode cL_heightAt 17 = .ok (.iconst 0, 1) := by decide +kernel
theorem dL_heightAt_18 : decode cL_heightAt 18 = .ok (.ireturn, 1) := by decide +kernel
set_option maxRecDepth 20000 in
theorem ggL_plotSizeAt_X3_plotSizeAt : GoodIn wsL_plotSizeAt wsX3_plotSizeAt := goodIn_ca (goodIn_r _ [6, 7, 8, 9, 5, 10, 11, 12, 13, 14, 15, 16, 17, 18, 19, 20, 21, 22, 23, 24, 25, 26, 27, 28, 29, 30, 31, 32, 33, 34, 35, 36, 37, 38, 39, 40, 41, 42, 43, 44, 45, 46, 47] (by decide +kernel) (by decide +kernel)) (goodIn_sub (fun _ h => List.mem_cons_of_mem _ (List.mem_append_right _ h)) (by decide +kernel))
set_option maxRecDepth 20000 in
theorem gL_plotSizeAt_X3_plotSizeAt : GoodIn wsL_plotSizeAt (wsV RL 62 RX3 yX3_plotSizeAt wsX3_plotSizeAt) := goodIn_app (goodIn_of _ (by decide +kernel)) ggL_plotSizeAt_X3_plotSizeAt
theorem dL_plotSizeAt_0 : decode cL_plotSizeAt 0 = .ok (.aload_n 3, 1) := by decide +kernel
theorem dL_plotSizeAt_1 : decode cL_plotSizeAt 1 = .ok (.iconst 0, 1) := by decide +kernel
theorem dL_plotSizeAt_2 : decode cL_plotSizeAt 2 = .ok (.aload_n 0, 1) := by decide +kernel
theorem dL_plotSizeAt_3 : decode cL_plotSizeAt 3 = .ok (.iload_n 1, 1) := by decide +kernel
theorem dL_plotSizeAt_4 : decode cL_plotSizeAt 4 = .ok (.iload_n 2, 1) := by decide +kernel
theorem dL_plotSizeAt_5 : decode cL_plotSizeAt 5 = .ok (.invokevirtual 62, 3) := by decide +kernel
theorem dL_plotSizeAt_8 : decode cL_plotSizeAt 8 = .ok (.i2l, 1) := by decide +kernel
theorem dL_plotSizeAt_9 : decode cL_plotSizeAt 9 = .ok (.lastore, 1) := by decide +kernel
theorem dL_plotSizeAt_10 : decode cL_plotSizeAt 10 = .ok (.goto 7, 3) := by decide +kernel
theorem dL_plotSizeAt_13 : decode cL_plotSizeAt 13 = .ok (.astore 4, 2) := by decide +kernel
theorem dL_plotSizeAt_15 : decode cL_plotSizeAt 15 = .ok (.iconst 1, 1) := by decide +kernel
theorem dL_plotSizeAt_16 : decode cL_plotSizeAt 16 = .ok (.ireturn, 1) := by decide +kernel
theorem dL_plotSizeAt_17 : decode cL_plotSizeAt 17 = .ok (.iconst 0, 1) := by decide +kernel
theorem dL_plotSizeAt_18 : decode cL_plotSizeAt 18 = .ok (.ireturn, 1) := by decide +kernel
set_option maxRecDepth 20000 in
theorem ggL_plotRankAt_X3_plotRankAt : GoodIn wsL_plotRankAt wsX3_plotRankAt := goodIn_ca (goodIn_r _ [6, 7, 8, 9, 5, 10, 11, 12, 13, 14, 15, 16, 17, 18, 19, 20, 21, 22, 23, 24, 25, 26, 27, 28, 29, 30, 31, 32, 33, 34, 35, 36, 37] (by decide +kernel) (by decide +kernel)) (goodIn_sub (fun _ h => List.mem_cons_of_mem _ (List.mem_append_right _ h)) (by decide +kernel))
set_option maxRecDepth 20000 in
theorem gL_plotRankAt_X3_plotRankAt : GoodIn wsL_plotRankAt (wsV RL 65 RX3 yX3_plotRankAt wsX3_plotRankAt) := goodIn_app (goodIn_of _ (by decide +kernel)) ggL_plotRankAt_X3_plotRankAt
theorem dL_plotRankAt_0 : decode cL_plotRankAt 0 = .ok (.aload_n 3, 1) := by decide +kernel
theorem dL_plotRankAt_1 : decode cL_plotRankAt 1 = .ok (.iconst 0, 1) := by decide +kernel
theorem dL_plotRankAt_2 : decode cL_plotRankAt 2 = .ok (.aload_n 0, 1) := by decide +kernel
theorem dL_plotRankAt_3 : decode cL_plotRankAt 3 = .ok (.iload_n 1, 1) := by decide +kernel
theorem dL_plotRankAt_4 : decode cL_plotRankAt 4 = .ok (.iload_n 2, 1) := by decide +kernel
theorem dL_plotRankAt_5 : decode cL_plotRankAt 5 = .ok (.invokevirtual 65, 3) := by decide +kernel
theorem dL_plotRankAt_8 : decode cL_plotRankAt 8 = .ok (.i2l, 1) := by decide +kernel
theorem dL_plotRankAt_9 : decode cL_plotRankAt 9 = .ok (.lastore, 1) := by decide +kernel
theorem dL_plotRankAt_10 : decode cL_plotRankAt 10 = .ok (.goto 7, 3) := by decide +kernel
theorem dL_plotRankAt_13 : decode cL_plotRankAt 13 = .ok (.astore 4, 2) := by decide +kernel
theorem dL_plotRankAt_15 : decode cL_plotRankAt 15 = .ok (.iconst 1, 1) := by decide +kernel
theorem dL_plotRankAt_16 : decode cL_plotRankAt 16 = .ok (.ireturn, 1) := by decide +kernel
theorem dL_plotRankAt_17 : decode cL_plotRankAt 17 = .ok (.iconst 0, 1) := by decide +kernel
theorem dL_plotRankAt_18 : decode cL_plotRankAt 18 = .ok (.ireturn, 1) := by decide +kernel
set_option maxRecDepth 20000 in
theorem ggL_plotPriceAt_X3_plotPriceAt : GoodIn wsL_plotPriceAt wsX3_plotPriceAt := goodIn_ca (goodIn_r _ [6, 7, 8, 9, 10, 5, 11, 12, 13, 14, 15, 16, 17, 18, 19, 20, 21, 22, 23, 24, 25, 26, 27, 28, 29, 30, 31, 32, 33, 34, 35, 36, 37, 38, 39, 40, 41, 42, 43, 44, 45, 46, 47, 48, 49, 50, 51, 52, 53, 54, 55, 56, 57, 58, 59, 60, 61, 62] (by decide +kernel) (by decide +kernel)) (goodIn_sub (fun _ h => List.mem_cons_of_mem _ (List.mem_append_right _ h)) (by decide +kernel))
set_option maxRecDepth 20000 in
theorem gL_plotPriceAt_X3_plotPriceAt : GoodIn wsL_plotPriceAt (wsV RL 68 RX3 yX3_plotPriceAt wsX3_plotPriceAt) := goodIn_app (goodIn_of _ (by decide +kernel)) ggL_plotPriceAt_X3_plotPriceAt
theorem dL_plotPriceAt_0 : decode cL_plotPriceAt 0 = .ok (.aload_n 3, 1) := by decide +kernel
theorem dL_plotPriceAt_1 : decode cL_plotPriceAt 1 = .ok (.iconst 0, 1) := by decide +kernel
theorem dL_plotPriceAt_2 : decode cL_plotPriceAt 2 = .ok (.aload_n 0, 1) := by decide +kernel
theorem dL_plotPriceAt_3 : decode cL_plotPriceAt 3 = .ok (.iload_n 1, 1) := by decide +kernel
theorem dL_plotPriceAt_4 : decode cL_plotPriceAt 4 = .ok (.iload_n 2, 1) := by decide +kernel
theorem dL_plotPriceAt_5 : decode cL_plotPriceAt 5 = .ok (.invokevirtual 68, 3) := by decide +kernel
theorem dL_plotPriceAt_8 : decode cL_plotPriceAt 8 = .ok (.i2l, 1) := by decide +kernel
theorem dL_plotPriceAt_9 : decode cL_plotPriceAt 9 = .ok (.lastore, 1) := by decide +kernel
theorem dL_plotPriceAt_10 : decode cL_plotPriceAt 10 = .ok (.goto 7, 3) := by decide +kernel
theorem dL_plotPriceAt_13 : decode cL_plotPriceAt 13 = .ok (.astore 4, 2) := by decide +kernel
theorem dL_plotPriceAt_15 : decode cL_plotPriceAt 15 = .ok (.iconst 1, 1) := by decide +kernel
theorem dL_plotPriceAt_16 : decode cL_plotPriceAt 16 = .ok (.ireturn, 1) := by decide +kernel
theorem dL_plotPriceAt_17 : decode cL_plotPriceAt 17 = .ok (.iconst 0, 1) := by decide +kernel
theorem dL_plotPriceAt_18 : decode cL_plotPriceAt 18 = .ok (.ireturn, 1) := by decide +kernel
set_option maxRecDepth 20000 in
theorem ggL_plotOwner_X3_plotOwner : GoodIn wsL_plotOwner wsX3_plotOwner := goodIn_ca (goodIn_r _ [6, 7, 8, 9, 10, 5, 11, 12, 13, 14, 15, 16, 17, 18, 19, 20, 21, 22, 23, 24, 25, 26, 27, 28, 29, 30, 31, 32, 33, 34, 35, 36, 37, 38, 39, 40, 41] (by decide +kernel) (by decide +kernel)) (goodIn_sub (fun _ h => List.mem_cons_of_mem _ (List.mem_append_right _ h)) (by decide +kernel))
set_option maxRecDepth 20000 in
theorem gL_plotOwner_X3_plotOwner : GoodIn wsL_plotOwner (wsV RL 71 RX3 yX3_plotOwner wsX3_plotOwner) := goodIn_app (goodIn_of _ (by decide +kernel)) ggL_plotOwner_X3_plotOwner
theorem dL_plotOwner_0 : decode cL_plotOwner 0 = .ok (.aload_n 2, 1) := by decide +kernel
theorem dL_plotOwner_1 : decode cL_plotOwner 1 = .ok (.iconst 0, 1) := by decide +kernel
theorem dL_plotOwner_2 : decode cL_plotOwner 2 = .ok (.aload_n 0, 1) := by decide +kernel
theorem dL_plotOwner_3 : decode cL_plotOwner 3 = .ok (.iload_n 1, 1) := by decide +kernel
theorem dL_plotOwner_4 : decode cL_plotOwner 4 = .ok (.invokevirtual 71, 3) := by decide +kernel
theorem dL_plotOwner_7 : decode cL_plotOwner 7 = .ok (.i2l, 1) := by decide +kernel
theorem dL_plotOwner_8 : decode cL_plotOwner 8 = .ok (.lastore, 1) := by decide +kernel
theorem dL_plotOwner_9 : decode cL_plotOwner 9 = .ok (.goto 6, 3) := by decide +kernel
theorem dL_plotOwner_12 : decode cL_plotOwner 12 = .ok (.astore_n 3, 1) := by decide +kernel
theorem dL_plotOwner_13 : decode cL_plotOwner 13 = .ok (.iconst 1, 1) := by decide +kernel
theorem dL_plotOwner_14 : decode cL_plotOwner 14 = .ok (.ireturn, 1) := by decide +kernel
theorem dL_plotOwner_15 : decode cL_plotOwner 15 = .ok (.iconst 0, 1) := by decide +kernel
theorem dL_plotOwner_16 : decode cL_plotOwner 16 = .ok (.ireturn, 1) := by decide +kernel
set_option maxRecDepth 20000 in
theorem ggL_plotX_X3_plotX : GoodIn wsL_plotX wsX3_plotX := goodIn_ca (goodIn_r _ [6, 7, 8, 9, 10, 5, 11, 12, 13, 14, 15, 16, 17, 18, 19, 20, 21, 22, 23, 24, 25, 26, 27, 28, 29, 30, 31, 32, 33, 34, 35, 36, 37, 38, 39, 40, 41] (by decide +kernel) (by decide +kernel)) (goodIn_sub (fun _ h => List.mem_cons_of_mem _ (List.mem_append_right _ h)) (by decide +kernel))
set_option maxRecDepth 20000 in
theorem gL_plotX_X3_plotX : GoodIn wsL_plotX (wsV RL 74 RX3 yX3_plotX wsX3_plotX) := goodIn_app (goodIn_of _ (by decide +kernel)) ggL_plotX_X3_plotX
theorem dL_plotX_0 : decode cL_plotX 0 = .ok (.aload_n 2, 1) := by decide +kernel
theorem dL_plotX_1 : decode cL_plotX 1 = .ok (.iconst 0, 1) := by decide +kernel
theorem dL_plotX_2 : decode cL_plotX 2 = .ok (.aload_n 0, 1) := by decide +kernel
theorem dL_plotX_3 : decode cL_plotX 3 = .ok (.iload_n 1, 1) := by decide +kernel
theorem dL_plotX_4 : decode cL_plotX 4 = .ok (.invokevirtual 74, 3) := by decide +kernel
theorem dL_plotX_7 : decode cL_plotX 7 = .ok (.i2l, 1) := by decide +kernel
theorem dL_plotX_8 : decode cL_plotX 8 = .ok (.lastore, 1) := by decide +kernel
theorem dL_plotX_9 : decode cL_plotX 9 = .ok (.goto 6, 3) := by decide +kernel
theorem dL_plotX_12 : decode cL_plotX 12 = .ok (.astore_n 3, 1) := by decide +kernel
theorem dL_plotX_13 : decode cL_plotX 13 = .ok (.iconst 1, 1) := by decide +kernel
theorem dL_plotX_14 : decode cL_plotX 14 = .ok (.ireturn, 1) := by decide +kernel
theorem dL_plotX_15 : decode cL_plotX 15 = .ok (.iconst 0, 1) := by decide +kernel
theorem dL_plotX_16 : decode cL_plotX 16 = .ok (.ireturn, 1) := by decide +kernel
set_option maxRecDepth 20000 in
theorem ggL_plotY_X3_plotY : GoodIn wsL_plotY wsX3_plotY := goodIn_ca (goodIn_r _ [6, 7, 8, 9, 10, 5, 11, 12, 13, 14, 15, 16, 17, 18, 19, 20, 21, 22, 23, 24, 25, 26, 27, 28, 29, 30, 31, 32, 33, 34, 35, 36, 37, 38, 39, 40, 41] (by decide +kernel) (by decide +kernel)) (goodIn_sub (fun _ h => List.mem_cons_of_mem _ (List.mem_append_right _ h)) (by decide +kernel))
set_option maxRecDepth 20000 in
theorem gL_plotY_X3_plotY : GoodIn wsL_plotY (wsV RL 77 RX3 yX3_plotY wsX3_plotY) := goodIn_app (goodIn_of _ (by decide +kernel)) ggL_plotY_X3_plotY
theorem dL_plotY_0 : decode cL_plotY 0 = .ok (.aload_n 2, 1) := by decide +kernel
theorem dL_plotY_1 : decode cL_plotY 1 = .ok (.iconst 0, 1) := by decide +kernel
theorem dL_plotY_2 : decode cL_plotY 2 = .ok (.aload_n 0, 1) := by decide +kernel
theorem dL_plotY_3 : decode cL_plotY 3 = .ok (.iload_n 1, 1) := by decide +kernel
theorem dL_plotY_4 : decode cL_plotY 4 = .ok (.invokevirtual 77, 3) := by decide +kernel
theorem dL_plotY_7 : decode cL_plotY 7 = .ok (.i2l, 1) := by decide +kernel
theorem dL_plotY_8 : decode cL_plotY 8 = .ok (.lastore, 1) := by decide +kernel
theorem dL_plotY_9 : decode cL_plotY 9 = .ok (.goto 6, 3) := by decide +kernel
theorem dL_plotY_12 : decode cL_plotY 12 = .ok (.astore_n 3, 1) := by decide +kernel
theorem dL_plotY_13 : decode cL_plotY 13 = .ok (.iconst 1, 1) := by decide +kernel
theorem dL_plotY_14 : decode cL_plotY 14 = .ok (.ireturn, 1) := by decide +kernel
theorem dL_plotY_15 : decode cL_plotY 15 = .ok (.iconst 0, 1) := by decide +kernel
theorem dL_plotY_16 : decode cL_plotY 16 = .ok (.ireturn, 1) := by decide +kernel
set_option maxRecDepth 20000 in
theorem ggL_plotSize_X3_plotSize : GoodIn wsL_plotSize wsX3_plotSize := goodIn_ca (goodIn_r _ [6, 7, 8, 9, 10, 5, 11, 12, 13, 14, 15, 16, 17, 18, 19, 20, 21, 22, 23, 24, 25, 26, 27, 28, 29, 30, 31, 32, 33, 34, 35, 36, 37, 38, 39, 40, 41] (by decide +kernel) (by decide +kernel)) (goodIn_sub (fun _ h => List.mem_cons_of_mem _ (List.mem_append_right _ h)) (by decide +kernel))
set_option maxRecDepth 20000 in
theorem gL_plotSize_X3_plotSize : GoodIn wsL_plotSize (wsV RL 80 RX3 yX3_plotSize wsX3_plotSize) := goodIn_app (goodIn_of _ (by decide +kernel)) ggL_plotSize_X3_plotSize
theorem dL_plotSize_0 : decode cL_plotSize 0 = .ok (.aload_n 2, 1) := by decide +kernel
theorem dL_plotSize_1 : decode cL_plotSize 1 = .ok (.iconst 0, 1) := by decide +kernel
theorem dL_plotSize_2 : decode cL_plotSize 2 = .ok (.aload_n 0, 1) := by decide +kernel
theorem dL_plotSize_3 : decode cL_plotSize 3 = .ok (.iload_n 1, 1) := by decide +kernel
theorem dL_plotSize_4 : decode cL_plotSize 4 = .ok (.invokevirtual 80, 3) := by decide +kernel
theorem dL_plotSize_7 : decode cL_plotSize 7 = .ok (.i2l, 1) := by decide +kernel
theorem dL_plotSize_8 : decode cL_plotSize 8 = .ok (.lastore, 1) := by decide +kernel
theorem dL_plotSize_9 : decode cL_plotSize 9 = .ok (.goto 6, 3) := by decide +kernel
theorem dL_plotSize_12 : decode cL_plotSize 12 = .ok (.astore_n 3, 1) := by decide +kernel
theorem dL_plotSize_13 : decode cL_plotSize 13 = .ok (.iconst 1, 1) := by decide +kernel
theorem dL_plotSize_14 : decode cL_plotSize 14 = .ok (.ireturn, 1) := by decide +kernel
theorem dL_plotSize_15 : decode cL_plotSize 15 = .ok (.iconst 0, 1) := by decide +kernel
theorem dL_plotSize_16 : decode cL_plotSize 16 = .ok (.ireturn, 1) := by decide +kernel
set_option maxRecDepth 20000 in
theorem ggL_plotsOf_X3_plotsOf : GoodIn wsL_plotsOf wsX3_plotsOf := goodIn_ca (goodIn_r _ [6, 7, 8, 9, 5, 10, 11, 12, 13, 14, 15, 16, 17, 18, 19, 20, 21, 22, 23, 24, 25, 26, 27, 28, 29, 30, 31, 32, 33, 34, 35, 36, 37, 38] (by decide +kernel) (by decide +kernel)) (goodIn_sub (fun _ h => List.mem_cons_of_mem _ (List.mem_append_right _ h)) (by decide +kernel))
set_option maxRecDepth 20000 in
theorem gL_plotsOf_X3_plotsOf : GoodIn wsL_plotsOf (wsV RL 83 RX3 yX3_plotsOf wsX3_plotsOf) := goodIn_app (goodIn_of _ (by decide +kernel)) ggL_plotsOf_X3_plotsOf
theorem dL_plotsOf_0 : decode cL_plotsOf 0 = .ok (.aload_n 2, 1) := by decide +kernel
theorem dL_plotsOf_1 : decode cL_plotsOf 1 = .ok (.iconst 0, 1) := by decide +kernel
theorem dL_plotsOf_2 : decode cL_plotsOf 2 = .ok (.aload_n 0, 1) := by decide +kernel
theorem dL_plotsOf_3 : decode cL_plotsOf 3 = .ok (.iload_n 1, 1) := by decide +kernel
theorem dL_plotsOf_4 : decode cL_plotsOf 4 = .ok (.invokevirtual 83, 3) := by decide +kernel
theorem dL_plotsOf_7 : decode cL_plotsOf 7 = .ok (.i2l, 1) := by decide +kernel
theorem dL_plotsOf_8 : decode cL_plotsOf 8 = .ok (.lastore, 1) := by decide +kernel
theorem dL_plotsOf_9 : decode cL_plotsOf 9 = .ok (.goto 6, 3) := by decide +kernel
theorem dL_plotsOf_12 : decode cL_plotsOf 12 = .ok (.astore_n 3, 1) := by decide +kernel
theorem dL_plotsOf_13 : decode cL_plotsOf 13 = .ok (.iconst 1, 1) := by decide +kernel
theorem dL_plotsOf_14 : decode cL_plotsOf 14 = .ok (.ireturn, 1) := by decide +kernel
theorem dL_plotsOf_15 : decode cL_plotsOf 15 = .ok (.iconst 0, 1) := by decide +kernel
theorem dL_plotsOf_16 : decode cL_plotsOf 16 = .ok (.ireturn, 1) := by decide +kernel
set_option maxRecDepth 20000 in
theorem ggL_areaByPlots_X3_areaByPlots : GoodIn wsL_areaByPlots wsX3_areaByPlots := goodIn_ca (goodIn_r _ [6, 7, 8, 9, 5, 10, 11, 12, 13, 14, 15, 16, 17, 18, 19, 20, 21, 22, 23, 24, 25, 26, 27, 28, 29, 30, 31, 32, 33, 34, 35, 36, 37, 38, 39] (by decide +kernel) (by decide +kernel)) (goodIn_sub (fun _ h => List.mem_cons_of_mem _ (List.mem_append_right _ h)) (by decide +kernel))
set_option maxRecDepth 20000 in
theorem gL_areaByPlots_X3_areaByPlots : GoodIn wsL_areaByPlots (wsV RL 86 RX3 yX3_areaByPlots wsX3_areaByPlots) := goodIn_app (goodIn_of _ (by decide +kernel)) ggL_areaByPlots_X3_areaByPlots
theorem dL_areaByPlots_0 : decode cL_areaByPlots 0 = .ok (.aload_n 2, 1) := by decide +kernel
theorem dL_areaByPlots_1 : decode cL_areaByPlots 1 = .ok (.iconst 0, 1) := by decide +kernel
theorem dL_areaByPlots_2 : decode cL_areaByPlots 2 = .ok (.aload_n 0, 1) := by decide +kernel
theorem dL_areaByPlots_3 : decode cL_areaByPlots 3 = .ok (.iload_n 1, 1) := by decide +kernel
theorem dL_areaByPlots_4 : decode cL_areaByPlots 4 = .ok (.invokevirtual 86, 3) := by decide +kernel
theorem dL_areaByPlots_7 : decode cL_areaByPlots 7 = .ok (.i2l, 1) := by decide +kernel
theorem dL_areaByPlots_8 : decode cL_areaByPlots 8 = .ok (.lastore, 1) := by decide +kernel
theorem dL_areaByPlots_9 : decode cL_areaByPlots 9 = .ok (.goto 6, 3) := by decide +kernel
theorem dL_areaByPlots_12 : decode cL_areaByPlots 12 = .ok (.astore_n 3, 1) := by decide +kernel
theorem dL_areaByPlots_13 : decode cL_areaByPlots 13 = .ok (.iconst 1, 1) := by decide +kernel
theorem dL_areaByPlots_14 : decode cL_areaByPlots 14 = .ok (.ireturn, 1) := by decide +kernel
theorem dL_areaByPlots_15 : decode cL_areaByPlots 15 = .ok (.iconst 0, 1) := by decide +kernel
theorem dL_areaByPlots_16 : decode cL_areaByPlots 16 = .ok (.ireturn, 1) := by decide +kernel
set_option maxRecDepth 20000 in
theorem ggL_areaByCells_X3_areaByCells : GoodIn wsL_areaByCells wsX3_areaByCells := goodIn_ca (goodIn_r _ [6, 7, 8, 9, 5, 10, 11, 12, 13, 14, 15, 16, 17, 18, 19, 20, 21, 22, 23, 24, 25, 26, 27, 28, 29, 30, 31, 32, 33, 34, 35, 36, 37, 38, 39] (by decide +kernel) (by decide +kernel)) (goodIn_sub (fun _ h => List.mem_cons_of_mem _ (List.mem_append_right _ h)) (by decide +kernel))
set_option maxRecDepth 20000 in
theorem gL_areaByCells_X3_areaByCells : GoodIn wsL_areaByCells (wsV RL 89 RX3 yX3_areaByCells wsX3_areaByCells) := goodIn_app (goodIn_of _ (by decide +kernel)) ggL_areaByCells_X3_areaByCells
theorem dL_areaByCells_0 : decode cL_areaByCells 0 = .ok (.aload_n 2, 1) := by decide +kernel
theorem dL_areaByCells_1 : decode cL_areaByCells 1 = .ok (.iconst 0, 1) := by decide +kernel
theorem dL_areaByCells_2 : decode cL_areaByCells 2 = .ok (.aload_n 0, 1) := by decide +kernel
theorem dL_areaByCells_3 : decode cL_areaByCells 3 = .ok (.iload_n 1, 1) := by decide +kernel
theorem dL_areaByCells_4 : decode cL_areaByCells 4 = .ok (.invokevirtual 89, 3) := by decide +kernel
theorem dL_areaByCells_7 : decode cL_areaByCells 7 = .ok (.i2l, 1) := by decide +kernel
theorem dL_areaByCells_8 : decode cL_areaByCells 8 = .ok (.lastore, 1) := by decide +kernel
theorem dL_areaByCells_9 : decode cL_areaByCells 9 = .ok (.goto 6, 3) := by decide +kernel
theorem dL_areaByCells_12 : decode cL_areaByCells 12 = .ok (.astore_n 3, 1) := by decide +kernel
theorem dL_areaByCells_13 : decode cL_areaByCells 13 = .ok (.iconst 1, 1) := by decide +kernel
theorem dL_areaByCells_14 : decode cL_areaByCells 14 = .ok (.ireturn, 1) := by decide +kernel
theorem dL_areaByCells_15 : decode cL_areaByCells 15 = .ok (.iconst 0, 1) := by decide +kernel
theorem dL_areaByCells_16 : decode cL_areaByCells 16 = .ok (.ireturn, 1) := by decide +kernel
set_option maxRecDepth 20000 in
theorem ggL_fenceByPlots_X3_fenceByPlots : GoodIn wsL_fenceByPlots wsX3_fenceByPlots := goodIn_ca (goodIn_r _ [6, 7, 8, 9, 5, 10, 11, 12, 13, 14, 15, 16, 17, 18, 19, 20, 21, 22, 23, 24, 25, 26, 27, 28, 29, 30, 31, 32, 33, 34, 35, 36, 37, 38, 39, 40, 41, 42, 43, 44, 45, 46, 47, 48, 49, 50, 51, 52, 53, 54, 55, 56, 57, 58, 59, 60, 61, 62, 63, 64, 65, 66] (by decide +kernel) (by decide +kernel)) (goodIn_sub (fun _ h => List.mem_cons_of_mem _ (List.mem_append_right _ h)) (by decide +kernel))
set_option maxRecDepth 20000 in
theorem gL_fenceByPlots_X3_fenceByPlots : GoodIn wsL_fenceByPlots (wsV RL 92 RX3 yX3_fenceByPlots wsX3_fenceByPlots) := goodIn_app (goodIn_of _ (by decide +kernel)) ggL_fenceByPlots_X3_fenceByPlots
theorem dL_fenceByPlots_0 : decode cL_fenceByPlots 0 = .ok (.aload_n 2, 1) := by decide +kernel
theorem dL_fenceByPlots_1 : decode cL_fenceByPlots 1 = .ok (.iconst 0, 1) := by decide +kernel
theorem dL_fenceByPlots_2 : decode cL_fenceByPlots 2 = .ok (.aload_n 0, 1) := by decide +kernel
theorem dL_fenceByPlots_3 : decode cL_fenceByPlots 3 = .ok (.iload_n 1, 1) := by decide +kernel
theorem dL_fenceByPlots_4 : decode cL_fenceByPlots 4 = .ok (.invokevirtual 92, 3) := by decide +kernel
theorem dL_fenceByPlots_7 : decode cL_fenceByPlots 7 = .ok (.i2l, 1) := by decide +kernel
theorem dL_fenceByPlots_8 : decode cL_fenceByPlots 8 = .ok (.lastore, 1) := by decide +kernel
theorem dL_fenceByPlots_9 : decode cL_fenceByPlots 9 = .ok (.goto 6, 3) := by decide +kernel
theorem dL_fenceByPlots_12 : decode cL_fenceByPlots 12 = .ok (.astore_n 3, 1) := by decide +kernel
theorem dL_fenceByPlots_13 : decode cL_fenceByPlots 13 = .ok (.iconst 1, 1) := by decide +kernel
theorem dL_fenceByPlots_14 : decode cL_fenceByPlots 14 = .ok (.ireturn, 1) := by decide +kernel
theorem dL_fenceByPlots_15 : decode cL_fenceByPlots 15 = .ok (.iconst 0, 1) := by decide +kernel
theorem dL_fenceByPlots_16 : decode cL_fenceByPlots 16 = .ok (.ireturn, 1) := by decide +kernel
set_option maxRecDepth 20000 in
theorem ggL_fenceByCells_X3_fenceByCells : GoodIn wsL_fenceByCells wsX3_fenceByCells := goodIn_ca (goodIn_r _ [6, 7, 8, 9, 5, 10, 11, 12, 13, 14, 15, 16, 17, 18, 19, 20, 21, 22, 23, 24, 25, 26, 27, 28, 29, 30, 31, 32, 33, 34, 35, 36, 37, 38, 39, 40, 41, 42, 43, 44, 45, 46, 47, 48] (by decide +kernel) (by decide +kernel)) (goodIn_sub (fun _ h => List.mem_cons_of_mem _ (List.mem_append_right _ h)) (by decide +kernel))
set_option maxRecDepth 20000 in
theorem gL_fenceByCells_X3_fenceByCells : GoodIn wsL_fenceByCells (wsV RL 95 RX3 yX3_fenceByCells wsX3_fenceByCells) := goodIn_app (goodIn_of _ (by decide +kernel)) ggL_fenceByCells_X3_fenceByCells
theorem dL_fenceByCells_0 : decode cL_fenceByCells 0 = .ok (.aload_n 2, 1) := by decide +kernel
theorem dL_fenceByCells_1 : decode cL_fenceByCells 1 = .ok (.iconst 0, 1) := by decide +kernel
theorem dL_fenceByCells_2 : decode cL_fenceByCells 2 = .ok (.aload_n 0, 1) := by decide +kernel
theorem dL_fenceByCells_3 : decode cL_fenceByCells 3 = .ok (.iload_n 1, 1) := by decide +kernel
theorem dL_fenceByCells_4 : decode cL_fenceByCells 4 = .ok (.invokevirtual 95, 3) := by decide +kernel
theorem dL_fenceByCells_7 : decode cL_fenceByCells 7 = .ok (.i2l, 1) := by decide +kernel
theorem dL_fenceByCells_8 : decode cL_fenceByCells 8 = .ok (.lastore, 1) := by decide +kernel
theorem dL_fenceByCells_9 : decode cL_fenceByCells 9 = .ok (.goto 6, 3) := by decide +kernel
theorem dL_fenceByCells_12 : decode cL_fenceByCells 12 = .ok (.astore_n 3, 1) := by decide +kernel
theorem dL_fenceByCells_13 : decode cL_fenceByCells 13 = .ok (.iconst 1, 1) := by decide +kernel
theorem dL_fenceByCells_14 : decode cL_fenceByCells 14 = .ok (.ireturn, 1) := by decide +kernel
theorem dL_fenceByCells_15 : decode cL_fenceByCells 15 = .ok (.iconst 0, 1) := by decide +kernel
theorem dL_fenceByCells_16 : decode cL_fenceByCells 16 = .ok (.ireturn, 1) := by decide +kernel
set_option maxRecDepth 20000 in
theorem ggL_fenceBetween_X3_fenceBetween : GoodIn wsL_fenceBetween wsX3_fenceBetween := goodIn_ca (goodIn_r _ [6, 7, 8, 9, 5, 10, 11, 12, 13, 14, 15, 16, 17, 18, 19, 20, 21, 22, 23, 24, 25, 26, 27, 28, 29, 30, 31, 32, 33, 34, 35, 36, 37, 38, 39, 40, 41, 42, 43, 44, 45, 46, 47, 48] (by decide +kernel) (by decide +kernel)) (goodIn_sub (fun _ h => List.mem_cons_of_mem _ (List.mem_append_right _ h)) (by decide +kernel))
set_option maxRecDepth 20000 in
theorem gL_fenceBetween_X3_fenceBetween : GoodIn wsL_fenceBetween (wsV RL 98 RX3 yX3_fenceBetween wsX3_fenceBetween) := goodIn_app (goodIn_of _ (by decide +kernel)) ggL_fenceBetween_X3_fenceBetween
theorem dL_fenceBetween_0 : decode cL_fenceBetween 0 = .ok (.aload_n 3, 1) := by decide +kernel
theorem dL_fenceBetween_1 : decode cL_fenceBetween 1 = .ok (.iconst 0, 1) := by decide +kernel
theorem dL_fenceBetween_2 : decode cL_fenceBetween 2 = .ok (.aload_n 0, 1) := by decide +kernel
theorem dL_fenceBetween_3 : decode cL_fenceBetween 3 = .ok (.iload_n 1, 1) := by decide +kernel
theorem dL_fenceBetween_4 : decode cL_fenceBetween 4 = .ok (.iload_n 2, 1) := by decide +kernel
theorem dL_fenceBetween_5 : decode cL_fenceBetween 5 = .ok (.invokevirtual 98, 3) := by decide +kernel
theorem dL_fenceBetween_8 : decode cL_fenceBetween 8 = .ok (.i2l, 1) := by decide +kernel
theorem dL_fenceBetween_9 : decode cL_fenceBetween 9 = .ok (.lastore, 1) := by decide +kernel
theorem dL_fenceBetween_10 : decode cL_fenceBetween 10 = .ok (.goto 7, 3) := by decide +kernel
theorem dL_fenceBetween_13 : decode cL_fenceBetween 13 = .ok (.astore 4, 2) := by decide +kernel
theorem dL_fenceBetween_15 : decode cL_fenceBetween 15 = .ok (.iconst 1, 1) := by decide +kernel
theorem dL_fenceBetween_16 : decode cL_fenceBetween 16 = .ok (.ireturn, 1) := by decide +kernel
theorem dL_fenceBetween_17 : decode cL_fenceBetween 17 = .ok (.iconst 0, 1) := by decide +kernel
theorem dL_fenceBetween_18 : decode cL_fenceBetween 18 = .ok (.ireturn, 1) := by decide +kernel
set_option maxRecDepth 20000 in
theorem ggL_largestPlotOf_X3_largestPlotOf : GoodIn wsL_largestPlotOf wsX3_largestPlotOf := goodIn_ca (goodIn_r _ [6, 7, 8, 9, 5, 10, 11, 12, 13, 14, 15, 16, 17, 18, 19, 20, 21, 22, 23, 24, 25, 26, 27, 28, 29, 30, 31, 32, 33, 34, 35, 36, 37, 38, 39] (by decide +kernel) (by decide +kernel)) (goodIn_sub (fun _ h => List.mem_cons_of_mem _ (List.mem_append_right _ h)) (by decide +kernel))
set_option maxRecDepth 20000 in
theorem gL_largestPlotOf_X3_largestPlotOf : GoodIn wsL_largestPlotOf (wsV RL 101 RX3 yX3_largestPlotOf wsX3_largestPlotOf) := goodIn_app (goodIn_of _ (by decide +kernel)) ggL_largestPlotOf_X3_largestPlotOf
theorem dL_largestPlotOf_0 : decode cL_largestPlotOf 0 = .ok (.aload_n 2, 1) := by decide +kernel
theorem dL_largestPlotOf_1 : decode cL_largestPlotOf 1 = .ok (.iconst 0, 1) := by decide +kernel
theorem dL_largestPlotOf_2 : decode cL_largestPlotOf 2 = .ok (.aload_n 0, 1) := by decide +kernel
theorem dL_largestPlotOf_3 : decode cL_largestPlotOf 3 = .ok (.iload_n 1, 1) := by decide +kernel
theorem dL_largestPlotOf_4 : decode cL_largestPlotOf 4 = .ok (.invokevirtual 101, 3) := by decide +kernel
theorem dL_largestPlotOf_7 : decode cL_largestPlotOf 7 = .ok (.i2l, 1) := by decide +kernel
theorem dL_largestPlotOf_8 : decode cL_largestPlotOf 8 = .ok (.lastore, 1) := by decide +kernel
theorem dL_largestPlotOf_9 : decode cL_largestPlotOf 9 = .ok (.goto 6, 3) := by decide +kernel
theorem dL_largestPlotOf_12 : decode cL_largestPlotOf 12 = .ok (.astore_n 3, 1) := by decide +kernel
theorem dL_largestPlotOf_13 : decode cL_largestPlotOf 13 = .ok (.iconst 1, 1) := by decide +kernel
theorem dL_largestPlotOf_14 : decode cL_largestPlotOf 14 = .ok (.ireturn, 1) := by decide +kernel
theorem dL_largestPlotOf_15 : decode cL_largestPlotOf 15 = .ok (.iconst 0, 1) := by decide +kernel
theorem dL_largestPlotOf_16 : decode cL_largestPlotOf 16 = .ok (.ireturn, 1) := by decide +kernel
set_option maxRecDepth 20000 in
theorem ggL_firstToLose_X3_firstToLose : GoodIn wsL_firstToLose wsX3_firstToLose := goodIn_ca (goodIn_r _ [6, 7, 8, 9, 5, 10, 11, 12, 13, 14, 15, 16, 17, 18, 19, 20, 21, 22, 23, 24, 25, 26, 27, 28, 29, 30, 31, 32, 33, 34, 35, 36] (by decide +kernel) (by decide +kernel)) (goodIn_sub (fun _ h => List.mem_cons_of_mem _ (List.mem_append_right _ h)) (by decide +kernel))
set_option maxRecDepth 20000 in
theorem gL_firstToLose_X3_firstToLose : GoodIn wsL_firstToLose (wsV RL 104 RX3 yX3_firstToLose wsX3_firstToLose) := goodIn_app (goodIn_of _ (by decide +kernel)) ggL_firstToLose_X3_firstToLose
theorem dL_firstToLose_0 : decode cL_firstToLose 0 = .ok (.aload_n 2, 1) := by decide +kernel
theorem dL_firstToLose_1 : decode cL_firstToLose 1 = .ok (.iconst 0, 1) := by decide +kernel
theorem dL_firstToLose_2 : decode cL_firstToLose 2 = .ok (.aload_n 0, 1) := by decide +kernel
theorem dL_firstToLose_3 : decode cL_firstToLose 3 = .ok (.iload_n 1, 1) := by decide +kernel
theorem dL_firstToLose_4 : decode cL_firstToLose 4 = .ok (.invokevirtual 104, 3) := by decide +kernel
theorem dL_firstToLose_7 : decode cL_firstToLose 7 = .ok (.i2l, 1) := by decide +kernel
theorem dL_firstToLose_8 : decode cL_firstToLose 8 = .ok (.lastore, 1) := by decide +kernel
theorem dL_firstToLose_9 : decode cL_firstToLose 9 = .ok (.goto 6, 3) := by decide +kernel
theorem dL_firstToLose_12 : decode cL_firstToLose 12 = .ok (.astore_n 3, 1) := by decide +kernel
theorem dL_firstToLose_13 : decode cL_firstToLose 13 = .ok (.iconst 1, 1) := by decide +kernel
theorem dL_firstToLose_14 : decode cL_firstToLose 14 = .ok (.ireturn, 1) := by decide +kernel
theorem dL_firstToLose_15 : decode cL_firstToLose 15 = .ok (.iconst 0, 1) := by decide +kernel
theorem dL_firstToLose_16 : decode cL_firstToLose 16 = .ok (.ireturn, 1) := by decide +kernel
set_option maxRecDepth 20000 in
theorem ggL_coinsOf_X3_coinsOf : GoodIn wsL_coinsOf wsX3_coinsOf := goodIn_ca (goodIn_r _ [6, 7, 8, 9, 5, 10, 11, 12, 13, 14, 15, 16, 17, 18, 19, 20, 21, 22, 23, 24, 25, 26, 27, 28, 29, 30, 31, 32, 33, 34, 35, 36, 37, 38] (by decide +kernel) (by decide +kernel)) (goodIn_sub (fun _ h => List.mem_cons_of_mem _ (List.mem_append_right _ h)) (by decide +kernel))
set_option maxRecDepth 20000 in
theorem gL_coinsOf_X3_coinsOf : GoodIn wsL_coinsOf (wsV RL 107 RX3 yX3_coinsOf wsX3_coinsOf) := goodIn_app (goodIn_of _ (by decide +kernel)) ggL_coinsOf_X3_coinsOf
theorem dL_coinsOf_0 : decode cL_coinsOf 0 = .ok (.aload_n 2, 1) := by decide +kernel
theorem dL_coinsOf_1 : decode cL_coinsOf 1 = .ok (.iconst 0, 1) := by decide +kernel
theorem dL_coinsOf_2 : decode cL_coinsOf 2 = .ok (.aload_n 0, 1) := by decide +kernel
theorem dL_coinsOf_3 : decode cL_coinsOf 3 = .ok (.iload_n 1, 1) := by decide +kernel
theorem dL_coinsOf_4 : decode cL_coinsOf 4 = .ok (.invokevirtual 107, 3) := by decide +kernel
theorem dL_coinsOf_7 : decode cL_coinsOf 7 = .ok (.i2l, 1) := by decide +kernel
theorem dL_coinsOf_8 : decode cL_coinsOf 8 = .ok (.lastore, 1) := by decide +kernel
theorem dL_coinsOf_9 : decode cL_coinsOf 9 = .ok (.goto 6, 3) := by decide +kernel
theorem dL_coinsOf_12 : decode cL_coinsOf 12 = .ok (.astore_n 3, 1) := by decide +kernel
theorem dL_coinsOf_13 : decode cL_coinsOf 13 = .ok (.iconst 1, 1) := by decide +kernel
theorem dL_coinsOf_14 : decode cL_coinsOf 14 = .ok (.ireturn, 1) := by decide +kernel
theorem dL_coinsOf_15 : decode cL_coinsOf 15 = .ok (.iconst 0, 1) := by decide +kernel
theorem dL_coinsOf_16 : decode cL_coinsOf 16 = .ok (.ireturn, 1) := by decide +kernel
set_option maxRecDepth 20000 in
theorem ggL_lowCells_X3_lowCells : GoodIn wsL_lowCells wsX3_lowCells := goodIn_ca (goodIn_ca (goodIn_r _ [7, 8, 9, 10, 6, 11, 12, 13, 14, 15, 16, 17, 18, 19, 20, 21, 22, 23, 24, 25, 26, 27, 28, 29, 30, 31, 32, 33, 34, 35, 36, 37, 38, 39, 40, 41, 42, 43, 44, 45] (by decide +kernel) (by decide +kernel)) (goodIn_sub (fun _ h => List.mem_cons_of_mem _ (List.mem_append_left _ (List.mem_append_right _ h))) (by decide +kernel))) (goodIn_sub (fun _ h => List.mem_cons_of_mem _ (List.mem_append_right _ h)) (by decide +kernel))
set_option maxRecDepth 20000 in
theorem gL_lowCells_X3_lowCells : GoodIn wsL_lowCells (wsV RL 110 RX3 yX3_lowCells wsX3_lowCells) := goodIn_app (goodIn_of _ (by decide +kernel)) ggL_lowCells_X3_lowCells
theorem dL_lowCells_0 : decode cL_lowCells 0 = .ok (.aload_n 3, 1) := by decide +kernel
theorem dL_lowCells_1 : decode cL_lowCells 1 = .ok (.iconst 0, 1) := by decide +kernel
theorem dL_lowCells_2 : decode cL_lowCells 2 = .ok (.aload_n 0, 1) := by decide +kernel
theorem dL_lowCells_3 : decode cL_lowCells 3 = .ok (.iload_n 1, 1) := by decide +kernel
theorem dL_lowCells_4 : decode cL_lowCells 4 = .ok (.iload_n 2, 1) := by decide +kernel
theorem dL_lowCells_5 : decode cL_lowCells 5 = .ok (.invokevirtual 110, 3) := by decide +kernel
theorem dL_lowCells_8 : decode cL_lowCells 8 = .ok (.i2l, 1) := by decide +kernel
theorem dL_lowCells_9 : decode cL_lowCells 9 = .ok (.lastore, 1) := by decide +kernel
theorem dL_lowCells_10 : decode cL_lowCells 10 = .ok (.goto 11, 3) := by decide +kernel
theorem dL_lowCells_13 : decode cL_lowCells 13 = .ok (.astore 4, 2) := by decide +kernel
theorem dL_lowCells_15 : decode cL_lowCells 15 = .ok (.iconst 1, 1) := by decide +kernel
theorem dL_lowCells_16 : decode cL_lowCells 16 = .ok (.ireturn, 1) := by decide +kernel
theorem dL_lowCells_17 : decode cL_lowCells 17 = .ok (.astore 4, 2) := by decide +kernel
theorem dL_lowCells_19 : decode cL_lowCells 19 = .ok (.iconst 2, 1) := by decide +kernel
theorem dL_lowCells_20 : decode cL_lowCells 20 = .ok (.ireturn, 1) := by decide +kernel
theorem dL_lowCells_21 : decode cL_lowCells 21 = .ok (.iconst 0, 1) := by decide +kernel
theorem dL_lowCells_22 : decode cL_lowCells 22 = .ok (.ireturn, 1) := by decide +kernel
set_option maxRecDepth 20000 in
theorem ggL_plotsIfFlooded_X3_plotsIfFlooded : GoodIn wsL_plotsIfFlooded wsX3_plotsIfFlooded := goodIn_ca (goodIn_r _ [6, 7, 8, 9, 10, 5, 11, 12, 13, 14, 15, 16, 17, 18, 19, 20, 21, 22, 23, 24, 25, 26, 27, 28, 29, 30, 31, 32, 33, 34, 35, 36, 37, 38, 39, 40, 41, 42, 43, 44, 45, 46, 47, 48, 49, 50, 51, 52, 53, 54, 55, 56, 57, 58, 59, 60, 61, 62, 63, 64, 65, 66, 67, 68, 69, 70, 71, 72, 73, 74, 75, 76, 77, 78, 79, 80, 81, 82, 83, 84, 85, 86, 87, 88, 89, 90, 91, 92, 93, 94, 95, 96, 97, 98, 99, 100, 101, 102, 103, 104, 105] (by decide +kernel) (by decide +kernel)) (goodIn_sub (fun _ h => List.mem_cons_of_mem _ (List.mem_append_right _ h)) (by decide +kernel))
set_option maxRecDepth 20000 in
theorem gL_plotsIfFlooded_X3_plotsIfFlooded : GoodIn wsL_plotsIfFlooded (wsV RL 113 RX3 yX3_plotsIfFlooded wsX3_plotsIfFlooded) := goodIn_app (goodIn_of _ (by decide +kernel)) ggL_plotsIfFlooded_X3_plotsIfFlooded
theorem dL_plotsIfFlooded_0 : decode cL_plotsIfFlooded 0 = .ok (.aload_n 2, 1) := by decide +kernel
theorem dL_plotsIfFlooded_1 : decode cL_plotsIfFlooded 1 = .ok (.iconst 0, 1) := by decide +kernel
theorem dL_plotsIfFlooded_2 : decode cL_plotsIfFlooded 2 = .ok (.aload_n 0, 1) := by decide +kernel
theorem dL_plotsIfFlooded_3 : decode cL_plotsIfFlooded 3 = .ok (.iload_n 1, 1) := by decide +kernel
theorem dL_plotsIfFlooded_4 : decode cL_plotsIfFlooded 4 = .ok (.invokevirtual 113, 3) := by decide +kernel
theorem dL_plotsIfFlooded_7 : decode cL_plotsIfFlooded 7 = .ok (.i2l, 1) := by decide +kernel
theorem dL_plotsIfFlooded_8 : decode cL_plotsIfFlooded 8 = .ok (.lastore, 1) := by decide +kernel
theorem dL_plotsIfFlooded_9 : decode cL_plotsIfFlooded 9 = .ok (.goto 6, 3) := by decide +kernel
theorem dL_plotsIfFlooded_12 : decode cL_plotsIfFlooded 12 = .ok (.astore_n 3, 1) := by decide +kernel
theorem dL_plotsIfFlooded_13 : decode cL_plotsIfFlooded 13 = .ok (.iconst 1, 1) := by decide +kernel
theorem dL_plotsIfFlooded_14 : decode cL_plotsIfFlooded 14 = .ok (.ireturn, 1) := by decide +kernel
theorem dL_plotsIfFlooded_15 : decode cL_plotsIfFlooded 15 = .ok (.iconst 0, 1) := by decide +kernel
theorem dL_plotsIfFlooded_16 : decode cL_plotsIfFlooded 16 = .ok (.ireturn, 1) := by decide +kernel
set_option maxRecDepth 20000 in
theorem ggL_lossesIfTaxed_X3_lossesIfTaxed : GoodIn wsL_lossesIfTaxed wsX3_lossesIfTaxed := goodIn_ca (goodIn_r _ [6, 7, 8, 5, 9, 10, 11, 12, 13, 14, 15, 16, 17, 18, 19, 20, 21, 22, 23, 24, 25, 26, 27, 28, 29, 30, 31, 32, 33, 34, 35, 36, 37, 38, 39, 40, 41, 42, 43, 44, 45, 46, 47, 48, 49, 50, 51, 52, 53, 54, 55, 56] (by decide +kernel) (by decide +kernel)) (goodIn_sub (fun _ h => List.mem_cons_of_mem _ (List.mem_append_right _ h)) (by decide +kernel))
set_option maxRecDepth 20000 in
theorem gL_lossesIfTaxed_X3_lossesIfTaxed : GoodIn wsL_lossesIfTaxed (wsV RL 116 RX3 yX3_lossesIfTaxed wsX3_lossesIfTaxed) := goodIn_app (goodIn_of _ (by decide +kernel)) ggL_lossesIfTaxed_X3_lossesIfTaxed
theorem dL_lossesIfTaxed_0 : decode cL_lossesIfTaxed 0 = .ok (.aload_n 2, 1) := by decide +kernel
theorem dL_lossesIfTaxed_1 : decode cL_lossesIfTaxed 1 = .ok (.iconst 0, 1) := by decide +kernel
theorem dL_lossesIfTaxed_2 : decode cL_lossesIfTaxed 2 = .ok (.aload_n 0, 1) := by decide +kernel
theorem dL_lossesIfTaxed_3 : decode cL_lossesIfTaxed 3 = .ok (.iload_n 1, 1) := by decide +kernel
theorem dL_lossesIfTaxed_4 : decode cL_lossesIfTaxed 4 = .ok (.invokevirtual 116, 3) := by decide +kernel
theorem dL_lossesIfTaxed_7 : decode cL_lossesIfTaxed 7 = .ok (.i2l, 1) := by decide +kernel
theorem dL_lossesIfTaxed_8 : decode cL_lossesIfTaxed 8 = .ok (.lastore, 1) := by decide +kernel
theorem dL_lossesIfTaxed_9 : decode cL_lossesIfTaxed 9 = .ok (.goto 6, 3) := by decide +kernel
theorem dL_lossesIfTaxed_12 : decode cL_lossesIfTaxed 12 = .ok (.astore_n 3, 1) := by decide +kernel
theorem dL_lossesIfTaxed_13 : decode cL_lossesIfTaxed 13 = .ok (.iconst 1, 1) := by decide +kernel
theorem dL_lossesIfTaxed_14 : decode cL_lossesIfTaxed 14 = .ok (.ireturn, 1) := by decide +kernel
theorem dL_lossesIfTaxed_15 : decode cL_lossesIfTaxed 15 = .ok (.iconst 0, 1) := by decide +kernel
theorem dL_lossesIfTaxed_16 : decode cL_lossesIfTaxed 16 = .ok (.ireturn, 1) := by decide +kernel
set_option maxRecDepth 20000 in
theorem ggL_nearestNeighbour_X3_nearestNeighbour : GoodIn wsL_nearestNeighbour wsX3_nearestNeighbour := goodIn_ca (goodIn_r _ [6, 7, 8, 9, 5, 10, 11, 12, 13, 14, 15, 16, 17, 18, 19, 20, 21, 22, 23, 24, 25, 26, 27, 28, 29, 30, 31, 32, 33, 34, 35, 36, 37, 38, 39, 40, 41, 42, 43, 44, 45, 46, 47, 48] (by decide +kernel) (by decide +kernel)) (goodIn_sub (fun _ h => List.mem_cons_of_mem _ (List.mem_append_right _ h)) (by decide +kernel))
set_option maxRecDepth 20000 in
theorem gL_nearestNeighbour_X3_nearestNeighbour : GoodIn wsL_nearestNeighbour (wsV RL 119 RX3 yX3_nearestNeighbour wsX3_nearestNeighbour) := goodIn_app (goodIn_of _ (by decide +kernel)) ggL_nearestNeighbour_X3_nearestNeighbour
theorem dL_nearestNeighbour_0 : decode cL_nearestNeighbour 0 = .ok (.aload_n 2, 1) := by decide +kernel
theorem dL_nearestNeighbour_1 : decode cL_nearestNeighbour 1 = .ok (.iconst 0, 1) := by decide +kernel
theorem dL_nearestNeighbour_2 : decode cL_nearestNeighbour 2 = .ok (.aload_n 0, 1) := by decide +kernel
theorem dL_nearestNeighbour_3 : decode cL_nearestNeighbour 3 = .ok (.iload_n 1, 1) := by decide +kernel
theorem dL_nearestNeighbour_4 : decode cL_nearestNeighbour 4 = .ok (.invokevirtual 119, 3) := by decide +kernel
theorem dL_nearestNeighbour_7 : decode cL_nearestNeighbour 7 = .ok (.i2l, 1) := by decide +kernel
theorem dL_nearestNeighbour_8 : decode cL_nearestNeighbour 8 = .ok (.lastore, 1) := by decide +kernel
theorem dL_nearestNeighbour_9 : decode cL_nearestNeighbour 9 = .ok (.goto 6, 3) := by decide +kernel
theorem dL_nearestNeighbour_12 : decode cL_nearestNeighbour 12 = .ok (.astore_n 3, 1) := by decide +kernel
theorem dL_nearestNeighbour_13 : decode cL_nearestNeighbour 13 = .ok (.iconst 1, 1) := by decide +kernel
theorem dL_nearestNeighbour_14 : decode cL_nearestNeighbour 14 = .ok (.ireturn, 1) := by decide +kernel
theorem dL_nearestNeighbour_15 : decode cL_nearestNeighbour 15 = .ok (.iconst 0, 1) := by decide +kernel
theorem dL_nearestNeighbour_16 : decode cL_nearestNeighbour 16 = .ok (.ireturn, 1) := by decide +kernel
