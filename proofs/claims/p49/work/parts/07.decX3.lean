set_option maxRecDepth 20000 in
theorem ggX3_init_X2_init : GoodIn wsX3_init wsX2_init := goodIn_r _ [23, 24, 2, 3, 25, 26, 27, 28, 29, 30, 31, 32, 33, 34, 35, 36, 37, 38, 39, 40, 41, 42, 43, 44, 45, 46, 47, 48, 49, 50, 51, 52, 53, 54, 6, 55, 56, 57, 58, 59, 60, 61, 62, 63, 64, 65, 66, 67, 68, 69, 70, 71, 72, 73, 74, 75, 76, 77, 78, 79, 80, 81, 82, 83, 84, 118, 119, 120, 121, 122, 123, 124, 125, 95, 96, 97, 98, 99, 100, 101] (by decide +kernel) (by decide +kernel)
set_option maxRecDepth 20000 in
theorem gX3_init_X2_init : GoodIn wsX3_init (wsX2_init) := ggX3_init_X2_init
set_option maxRecDepth 20000 in
theorem ggX3_init_X0_init : GoodIn wsX3_init wsX0_init := goodIn_r _ [86, 87, 2, 3, 88, 89, 90, 91, 92, 93, 94, 111, 112, 113, 114, 115, 116, 117] (by decide +kernel) (by decide +kernel)
set_option maxRecDepth 20000 in
theorem gX3_init_X0_init_n46 : GoodIn wsX3_init (wsX0_init) := ggX3_init_X0_init
theorem dX3_init_0 : decode cX3_init 0 = .ok (.aload_n 0, 1) := by decide +kernel
theorem dX3_init_1 : decode cX3_init 1 = .ok (.invokespecial 3, 3) := by decide +kernel
theorem dX3_init_4 : decode cX3_init 4 = .ok (.aload_n 0, 1) := by decide +kernel
theorem dX3_init_5 : decode cX3_init 5 = .ok (.new 9, 3) := by decide +kernel
theorem dX3_init_8 : decode cX3_init 8 = .ok (.dup, 1) := by decide +kernel
theorem dX3_init_9 : decode cX3_init 9 = .ok (.invokespecial 11, 3) := by decide +kernel
theorem dX3_init_12 : decode cX3_init 12 = .ok (.putfield 12, 3) := by decide +kernel
theorem dX3_init_15 : decode cX3_init 15 = .ok (.aload_n 0, 1) := by decide +kernel
theorem dX3_init_16 : decode cX3_init 16 = .ok (.aload_n 0, 1) := by decide +kernel
theorem dX3_init_17 : decode cX3_init 17 = .ok (.getfield 12, 3) := by decide +kernel
theorem dX3_init_20 : decode cX3_init 20 = .ok (.getfield 16, 3) := by decide +kernel
theorem dX3_init_23 : decode cX3_init 23 = .ok (.putfield 20, 3) := by decide +kernel
theorem dX3_init_26 : decode cX3_init 26 = .ok (.aload_n 0, 1) := by decide +kernel
theorem dX3_init_27 : decode cX3_init 27 = .ok (.new 9, 3) := by decide +kernel
theorem dX3_init_30 : decode cX3_init 30 = .ok (.dup, 1) := by decide +kernel
theorem dX3_init_31 : decode cX3_init 31 = .ok (.invokespecial 11, 3) := by decide +kernel
theorem dX3_init_34 : decode cX3_init 34 = .ok (.putfield 21, 3) := by decide +kernel
theorem dX3_init_37 : decode cX3_init 37 = .ok (.aload_n 0, 1) := by decide +kernel
theorem dX3_init_38 : decode cX3_init 38 = .ok (.bipush 6, 2) := by decide +kernel
theorem dX3_init_40 : decode cX3_init 40 = .ok (.anewarray 24, 3) := by decide +kernel
theorem dX3_init_43 : decode cX3_init 43 = .ok (.putfield 26, 3) := by decide +kernel
theorem dX3_init_46 : decode cX3_init 46 = .ok (.aload_n 0, 1) := by decide +kernel
theorem dX3_init_47 : decode cX3_init 47 = .ok (.iconst 0, 1) := by decide +kernel
theorem dX3_init_48 : decode cX3_init 48 = .ok (.putfield 30, 3) := by decide +kernel
theorem dX3_init_51 : decode cX3_init 51 = .ok (.aload_n 0, 1) := by decide +kernel
theorem dX3_init_52 : decode cX3_init 52 = .ok (.iconst 2, 1) := by decide +kernel
theorem dX3_init_53 : decode cX3_init 53 = .ok (.anewarray 24, 3) := by decide +kernel
theorem dX3_init_56 : decode cX3_init 56 = .ok (.putfield 34, 3) := by decide +kernel
theorem dX3_init_59 : decode cX3_init 59 = .ok (.aload_n 0, 1) := by decide +kernel
theorem dX3_init_60 : decode cX3_init 60 = .ok (.bipush 60, 2) := by decide +kernel
theorem dX3_init_62 : decode cX3_init 62 = .ok (.newarray .char, 2) := by decide +kernel
theorem dX3_init_64 : decode cX3_init 64 = .ok (.putfield 37, 3) := by decide +kernel
theorem dX3_init_67 : decode cX3_init 67 = .ok (.aload_n 0, 1) := by decide +kernel
theorem dX3_init_68 : decode cX3_init 68 = .ok (.iconst 0, 1) := by decide +kernel
theorem dX3_init_69 : decode cX3_init 69 = .ok (.putfield 41, 3) := by decide +kernel
theorem dX3_init_72 : decode cX3_init 72 = .ok (.aload_n 0, 1) := by decide +kernel
theorem dX3_init_73 : decode cX3_init 73 = .ok (.new 44, 3) := by decide +kernel
theorem dX3_init_76 : decode cX3_init 76 = .ok (.dup, 1) := by decide +kernel
theorem dX3_init_77 : decode cX3_init 77 = .ok (.invokespecial 46, 3) := by decide +kernel
theorem dX3_init_80 : decode cX3_init 80 = .ok (.putfield 47, 3) := by decide +kernel
theorem dX3_init_83 : decode cX3_init 83 = .ok (.return_, 1) := by decide +kernel
set_option maxRecDepth 20000 in
theorem ggX3_grant_X3_needCell : GoodIn wsX3_grant wsX3_needCell := goodIn_ca (goodIn_r _ [6, 7, 8, 9, 10, 5, 11] (by decide +kernel) (by decide +kernel)) (goodIn_sub (fun _ h => List.mem_cons_of_mem _ (List.mem_append_left _ (List.mem_append_right _ h))) (by decide +kernel))
set_option maxRecDepth 20000 in
theorem gX3_grant_X3_needCell : GoodIn wsX3_grant (va_wsS RX3 51 yX3_needCell wsX3_needCell) := goodIn_app (goodIn_of _ (by decide +kernel)) ggX3_grant_X3_needCell
set_option maxRecDepth 20000 in
theorem ggX3_grant_X3_needOwner : GoodIn wsX3_grant wsX3_needOwner := goodIn_ca (goodIn_r _ [14, 7, 8, 15, 16, 5, 17] (by decide +kernel) (by decide +kernel)) (goodIn_sub (fun _ h => List.mem_cons_of_mem _ (List.mem_append_left _ (List.mem_append_right _ h))) (by decide +kernel))
set_option maxRecDepth 20000 in
theorem gX3_grant_X3_needOwner : GoodIn wsX3_grant (va_wsS RX3 55 yX3_needOwner wsX3_needOwner) := goodIn_app (goodIn_of _ (by decide +kernel)) ggX3_grant_X3_needOwner
set_option maxRecDepth 20000 in
theorem ggX3_grant_X3_needSquare : GoodIn wsX3_grant wsX3_needSquare := goodIn_ca (goodIn_r _ [20, 21, 22, 23, 24, 5, 25] (by decide +kernel) (by decide +kernel)) (goodIn_sub (fun _ h => List.mem_cons_of_mem _ (List.mem_append_right _ h)) (by decide +kernel))
set_option maxRecDepth 20000 in
theorem gX3_grant_X3_needSquare : GoodIn wsX3_grant (va_wsS RX3 59 yX3_needSquare wsX3_needSquare) := goodIn_app (goodIn_of _ (by decide +kernel)) ggX3_grant_X3_needSquare
set_option maxRecDepth 20000 in
theorem ggX3_grant_X3_saveState : GoodIn wsX3_grant wsX3_saveState := goodIn_r _ [29, 30, 31, 32, 33, 34, 5, 35, 36, 37, 38, 39, 40, 41, 42, 1, 43, 44, 45, 46, 47, 48, 49, 50, 51, 52, 53, 54, 55, 56, 57, 58, 59, 60, 61, 62, 63, 64, 65, 66, 67, 68, 69, 110, 111, 112, 113, 114, 115, 116, 117, 118, 119, 120, 121, 122, 123, 124, 125, 126] (by decide +kernel) (by decide +kernel)
set_option maxRecDepth 20000 in
theorem gX3_grant_X3_saveState : GoodIn wsX3_grant (wsV RX3 63 RX3 yX3_saveState wsX3_saveState) := goodIn_app (goodIn_of _ (by decide +kernel)) ggX3_grant_X3_saveState
set_option maxRecDepth 20000 in
theorem ggX3_grant_X1_give : GoodIn wsX3_grant wsX1_give := goodIn_r _ [73, 50, 24, 5, 25, 119, 120, 121, 122, 123, 124, 125, 126] (by decide +kernel) (by decide +kernel)
set_option maxRecDepth 20000 in
theorem gX3_grant_X1_give : GoodIn wsX3_grant (wsV RX3 66 RX1 yX1_give wsX1_give) := goodIn_app (goodIn_of _ (by decide +kernel)) ggX3_grant_X1_give
set_option maxRecDepth 20000 in
theorem ggX3_grant_X2_measure : GoodIn wsX3_grant wsX2_measure := goodIn_r _ [78, 79, 80, 81, 59, 60, 61, 82, 83, 77, 84, 85, 86, 87, 88, 10, 5, 11, 89, 90, 91, 92, 93, 94, 95, 96, 42, 97, 50, 24, 25, 98, 99, 100, 101, 102, 103, 104, 105, 106, 107, 108, 109, 127, 128, 129, 130, 131, 132, 133, 119, 120, 121, 122, 123, 124, 125, 126] (by decide +kernel) (by decide +kernel)
set_option maxRecDepth 20000 in
theorem gX3_grant_X2_measure : GoodIn wsX3_grant (wsV RX3 70 RX2 yX2_measure wsX2_measure) := goodIn_app (goodIn_of _ (by decide +kernel)) ggX3_grant_X2_measure
theorem dX3_grant_0 : decode cX3_grant 0 = .ok (.iload_n 1, 1) := by decide +kernel
theorem dX3_grant_1 : decode cX3_grant 1 = .ok (.iload_n 2, 1) := by decide +kernel
theorem dX3_grant_2 : decode cX3_grant 2 = .ok (.invokestatic 51, 3) := by decide +kernel
theorem dX3_grant_5 : decode cX3_grant 5 = .ok (.iload 4, 2) := by decide +kernel
theorem dX3_grant_7 : decode cX3_grant 7 = .ok (.invokestatic 55, 3) := by decide +kernel
theorem dX3_grant_10 : decode cX3_grant 10 = .ok (.iload_n 1, 1) := by decide +kernel
theorem dX3_grant_11 : decode cX3_grant 11 = .ok (.iload_n 2, 1) := by decide +kernel
theorem dX3_grant_12 : decode cX3_grant 12 = .ok (.iload_n 3, 1) := by decide +kernel
theorem dX3_grant_13 : decode cX3_grant 13 = .ok (.invokestatic 59, 3) := by decide +kernel
theorem dX3_grant_16 : decode cX3_grant 16 = .ok (.aload_n 0, 1) := by decide +kernel
theorem dX3_grant_17 : decode cX3_grant 17 = .ok (.invokevirtual 63, 3) := by decide +kernel
theorem dX3_grant_20 : decode cX3_grant 20 = .ok (.aload_n 0, 1) := by decide +kernel
theorem dX3_grant_21 : decode cX3_grant 21 = .ok (.getfield 20, 3) := by decide +kernel
theorem dX3_grant_24 : decode cX3_grant 24 = .ok (.iload_n 1, 1) := by decide +kernel
theorem dX3_grant_25 : decode cX3_grant 25 = .ok (.iload_n 2, 1) := by decide +kernel
theorem dX3_grant_26 : decode cX3_grant 26 = .ok (.iload_n 3, 1) := by decide +kernel
theorem dX3_grant_27 : decode cX3_grant 27 = .ok (.iload 4, 2) := by decide +kernel
theorem dX3_grant_29 : decode cX3_grant 29 = .ok (.invokevirtual 66, 3) := by decide +kernel
theorem dX3_grant_32 : decode cX3_grant 32 = .ok (.istore 5, 2) := by decide +kernel
theorem dX3_grant_34 : decode cX3_grant 34 = .ok (.aload_n 0, 1) := by decide +kernel
theorem dX3_grant_35 : decode cX3_grant 35 = .ok (.getfield 12, 3) := by decide +kernel
theorem dX3_grant_38 : decode cX3_grant 38 = .ok (.invokevirtual 70, 3) := by decide +kernel
theorem dX3_grant_41 : decode cX3_grant 41 = .ok (.iload 5, 2) := by decide +kernel
theorem dX3_grant_43 : decode cX3_grant 43 = .ok (.ireturn, 1) := by decide +kernel
set_option maxRecDepth 20000 in
theorem ggX3_raise_X3_needCell : GoodIn wsX3_raise wsX3_needCell := goodIn_ca (goodIn_r _ [7, 8, 9, 10, 11, 6, 12] (by decide +kernel) (by decide +kernel)) (goodIn_sub (fun _ h => List.mem_cons_of_mem _ (List.mem_append_right _ h)) (by decide +kernel))
set_option maxRecDepth 20000 in
theorem gX3_raise_X3_needCell : GoodIn wsX3_raise (va_wsS RX3 51 yX3_needCell wsX3_needCell) := goodIn_app (goodIn_of _ (by decide +kernel)) ggX3_raise_X3_needCell
set_option maxRecDepth 20000 in
theorem ggX3_raise_X3_needSquare : GoodIn wsX3_raise wsX3_needSquare := goodIn_ca (goodIn_r _ [15, 1, 2, 16, 17, 6, 18] (by decide +kernel) (by decide +kernel)) (goodIn_sub (fun _ h => List.mem_cons_of_mem _ (List.mem_append_left _ (List.mem_append_right _ h))) (by decide +kernel))
set_option maxRecDepth 20000 in
theorem gX3_raise_X3_needSquare : GoodIn wsX3_raise (va_wsS RX3 59 yX3_needSquare wsX3_needSquare) := goodIn_app (goodIn_of _ (by decide +kernel)) ggX3_raise_X3_needSquare
set_option maxRecDepth 20000 in
theorem ggX3_raise_X3_saveState : GoodIn wsX3_raise wsX3_saveState := goodIn_r _ [22, 23, 24, 25, 26, 27, 6, 28, 29, 30, 31, 32, 33, 34, 35, 3, 36, 37, 38, 39, 40, 41, 42, 43, 44, 45, 46, 47, 48, 49, 50, 51, 52, 53, 54, 55, 56, 57, 58, 59, 60, 61, 62, 74, 75, 76, 77, 78, 79, 80, 81, 82, 83, 84, 85, 86, 87, 88, 89, 90] (by decide +kernel) (by decide +kernel)
set_option maxRecDepth 20000 in
theorem gX3_raise_X3_saveState : GoodIn wsX3_raise (wsV RX3 63 RX3 yX3_saveState wsX3_saveState) := goodIn_app (goodIn_of _ (by decide +kernel)) ggX3_raise_X3_saveState
set_option maxRecDepth 20000 in
theorem ggX3_raise_X1_lift : GoodIn wsX3_raise wsX1_lift := goodIn_r _ [66, 44, 67, 68, 69, 70, 71, 72, 73, 17, 6, 18, 83, 84, 85, 86, 87, 88, 89, 90] (by decide +kernel) (by decide +kernel)
set_option maxRecDepth 20000 in
theorem gX3_raise_X1_lift : GoodIn wsX3_raise (wsV RX3 80 RX1 yX1_lift wsX1_lift) := goodIn_app (goodIn_of _ (by decide +kernel)) ggX3_raise_X1_lift
theorem dX3_raise_0 : decode cX3_raise 0 = .ok (.iload_n 1, 1) := by decide +kernel
theorem dX3_raise_1 : decode cX3_raise 1 = .ok (.iload_n 2, 1) := by decide +kernel
theorem dX3_raise_2 : decode cX3_raise 2 = .ok (.invokestatic 51, 3) := by decide +kernel
theorem dX3_raise_5 : decode cX3_raise 5 = .ok (.iload_n 1, 1) := by decide +kernel
theorem dX3_raise_6 : decode cX3_raise 6 = .ok (.iload_n 2, 1) := by decide +kernel
theorem dX3_raise_7 : decode cX3_raise 7 = .ok (.iload_n 3, 1) := by decide +kernel
theorem dX3_raise_8 : decode cX3_raise 8 = .ok (.invokestatic 59, 3) := by decide +kernel
theorem dX3_raise_11 : decode cX3_raise 11 = .ok (.iload 4, 2) := by decide +kernel
theorem dX3_raise_13 : decode cX3_raise 13 = .ok (.bipush (-9), 2) := by decide +kernel
theorem dX3_raise_15 : decode cX3_raise 15 = .ok (.if_icmp .lt 10, 3) := by decide +kernel
theorem dX3_raise_18 : decode cX3_raise 18 = .ok (.iload 4, 2) := by decide +kernel
theorem dX3_raise_20 : decode cX3_raise 20 = .ok (.bipush 9, 2) := by decide +kernel
theorem dX3_raise_22 : decode cX3_raise 22 = .ok (.if_icmp .le 13, 3) := by decide +kernel
theorem dX3_raise_25 : decode cX3_raise 25 = .ok (.new 73, 3) := by decide +kernel
theorem dX3_raise_28 : decode cX3_raise 28 = .ok (.dup, 1) := by decide +kernel
theorem dX3_raise_29 : decode cX3_raise 29 = .ok (.ldc 75, 2) := by decide +kernel
theorem dX3_raise_31 : decode cX3_raise 31 = .ok (.invokespecial 77, 3) := by decide +kernel
theorem dX3_raise_34 : decode cX3_raise 34 = .ok (.athrow, 1) := by decide +kernel
theorem dX3_raise_35 : decode cX3_raise 35 = .ok (.aload_n 0, 1) := by decide +kernel
theorem dX3_raise_36 : decode cX3_raise 36 = .ok (.invokevirtual 63, 3) := by decide +kernel
theorem dX3_raise_39 : decode cX3_raise 39 = .ok (.aload_n 0, 1) := by decide +kernel
theorem dX3_raise_40 : decode cX3_raise 40 = .ok (.getfield 20, 3) := by decide +kernel
theorem dX3_raise_43 : decode cX3_raise 43 = .ok (.iload_n 1, 1) := by decide +kernel
theorem dX3_raise_44 : decode cX3_raise 44 = .ok (.iload_n 2, 1) := by decide +kernel
theorem dX3_raise_45 : decode cX3_raise 45 = .ok (.iload_n 3, 1) := by decide +kernel
theorem dX3_raise_46 : decode cX3_raise 46 = .ok (.iload 4, 2) := by decide +kernel
theorem dX3_raise_48 : decode cX3_raise 48 = .ok (.invokevirtual 80, 3) := by decide +kernel
theorem dX3_raise_51 : decode cX3_raise 51 = .ok (.ireturn, 1) := by decide +kernel
set_option maxRecDepth 20000 in
theorem ggX3_flood_X3_needLevel : GoodIn wsX3_flood wsX3_needLevel := goodIn_ca (goodIn_r _ [6, 7, 8] (by decide +kernel) (by decide +kernel)) (goodIn_sub (fun _ h => List.mem_cons_of_mem _ (List.mem_append_right _ h)) (by decide +kernel))
set_option maxRecDepth 20000 in
theorem gX3_flood_X3_needLevel : GoodIn wsX3_flood (va_wsS RX3 83 yX3_needLevel wsX3_needLevel) := goodIn_app (goodIn_of _ (by decide +kernel)) ggX3_flood_X3_needLevel
set_option maxRecDepth 20000 in
theorem ggX3_flood_X3_saveState : GoodIn wsX3_flood wsX3_saveState := goodIn_r _ [12, 13, 14, 15, 16, 17, 5, 18, 19, 20, 21, 22, 23, 24, 25, 1, 26, 27, 28, 29, 30, 31, 32, 33, 34, 35, 36, 37, 38, 39, 40, 41, 42, 43, 44, 45, 46, 47, 48, 49, 50, 51, 52, 97, 98, 99, 100, 101, 102, 103, 104, 105, 106, 107, 108, 109, 110, 111, 112, 113] (by decide +kernel) (by decide +kernel)
set_option maxRecDepth 20000 in
theorem gX3_flood_X3_saveState : GoodIn wsX3_flood (wsV RX3 63 RX3 yX3_saveState wsX3_saveState) := goodIn_app (goodIn_of _ (by decide +kernel)) ggX3_flood_X3_saveState
set_option maxRecDepth 20000 in
theorem ggX3_flood_X1_drown : GoodIn wsX3_flood wsX1_drown := goodIn_r _ [56, 34, 33, 39, 106, 107, 108, 109, 110, 111, 112, 113] (by decide +kernel) (by decide +kernel)
set_option maxRecDepth 20000 in
theorem gX3_flood_X1_drown : GoodIn wsX3_flood (wsV RX3 86 RX1 yX1_drown wsX1_drown) := goodIn_app (goodIn_of _ (by decide +kernel)) ggX3_flood_X1_drown
set_option maxRecDepth 20000 in
theorem ggX3_flood_X2_measure : GoodIn wsX3_flood wsX2_measure := goodIn_r _ [61, 62, 63, 64, 42, 43, 44, 65, 66, 60, 67, 68, 69, 70, 71, 72, 5, 73, 74, 75, 76, 77, 78, 79, 80, 81, 25, 82, 33, 83, 84, 85, 86, 87, 88, 89, 90, 91, 92, 93, 94, 95, 96, 114, 115, 116, 117, 118, 119, 120, 106, 107, 108, 109, 110, 111, 112, 113] (by decide +kernel) (by decide +kernel)
set_option maxRecDepth 20000 in
theorem gX3_flood_X2_measure : GoodIn wsX3_flood (wsV RX3 70 RX2 yX2_measure wsX2_measure) := goodIn_app (goodIn_of _ (by decide +kernel)) ggX3_flood_X2_measure
theorem dX3_flood_0 : decode cX3_flood 0 = .ok (.iload_n 1, 1) := by decide +kernel
theorem dX3_flood_1 : decode cX3_flood 1 = .ok (.invokestatic 83, 3) := by decide +kernel
theorem dX3_flood_4 : decode cX3_flood 4 = .ok (.aload_n 0, 1) := by decide +kernel
theorem dX3_flood_5 : decode cX3_flood 5 = .ok (.invokevirtual 63, 3) := by decide +kernel
theorem dX3_flood_8 : decode cX3_flood 8 = .ok (.aload_n 0, 1) := by decide +kernel
theorem dX3_flood_9 : decode cX3_flood 9 = .ok (.getfield 20, 3) := by decide +kernel
theorem dX3_flood_12 : decode cX3_flood 12 = .ok (.iload_n 1, 1) := by decide +kernel
theorem dX3_flood_13 : decode cX3_flood 13 = .ok (.invokevirtual 86, 3) := by decide +kernel
theorem dX3_flood_16 : decode cX3_flood 16 = .ok (.istore_n 2, 1) := by decide +kernel
theorem dX3_flood_17 : decode cX3_flood 17 = .ok (.aload_n 0, 1) := by decide +kernel
theorem dX3_flood_18 : decode cX3_flood 18 = .ok (.getfield 12, 3) := by decide +kernel
theorem dX3_flood_21 : decode cX3_flood 21 = .ok (.invokevirtual 70, 3) := by decide +kernel
theorem dX3_flood_24 : decode cX3_flood 24 = .ok (.iload_n 2, 1) := by decide +kernel
theorem dX3_flood_25 : decode cX3_flood 25 = .ok (.ireturn, 1) := by decide +kernel
set_option maxRecDepth 20000 in
theorem ggX3_buyPlot_X3_needPerson : GoodIn wsX3_buyPlot wsX3_needPerson := goodIn_ca (goodIn_r _ [6, 7, 8] (by decide +kernel) (by decide +kernel)) (goodIn_sub (fun _ h => List.mem_cons_of_mem _ (List.mem_append_left _ (List.mem_append_right _ h))) (by decide +kernel))
set_option maxRecDepth 20000 in
theorem gX3_buyPlot_X3_needPerson : GoodIn wsX3_buyPlot (va_wsS RX3 90 yX3_needPerson wsX3_needPerson) := goodIn_app (goodIn_of _ (by decide +kernel)) ggX3_buyPlot_X3_needPerson
set_option maxRecDepth 20000 in
theorem ggX3_buyPlot_X3_needCell : GoodIn wsX3_buyPlot wsX3_needCell := goodIn_ca (goodIn_r _ [11, 7, 8, 12, 13, 5, 14] (by decide +kernel) (by decide +kernel)) (goodIn_sub (fun _ h => List.mem_cons_of_mem _ (List.mem_append_left _ (List.mem_append_right _ h))) (by decide +kernel))
set_option maxRecDepth 20000 in
theorem gX3_buyPlot_X3_needCell : GoodIn wsX3_buyPlot (va_wsS RX3 51 yX3_needCell wsX3_needCell) := goodIn_app (goodIn_of _ (by decide +kernel)) ggX3_buyPlot_X3_needCell
set_option maxRecDepth 20000 in
theorem ggX3_buyPlot_X2_rankAt : GoodIn wsX3_buyPlot wsX2_rankAt := goodIn_r _ [19, 20, 13, 5, 14, 157, 158, 159, 160, 161, 162, 163] (by decide +kernel) (by decide +kernel)
set_option maxRecDepth 20000 in
theorem gX3_buyPlot_X2_rankAt : GoodIn wsX3_buyPlot (wsV RX3 93 RX2 yX2_rankAt wsX2_rankAt) := goodIn_app (goodIn_of _ (by decide +kernel)) ggX3_buyPlot_X2_rankAt
set_option maxRecDepth 20000 in
theorem ggX3_buyPlot_X2_cornerX : GoodIn wsX3_buyPlot wsX2_cornerX := goodIn_r _ [24, 25, 26, 27, 28, 18, 29, 30, 157, 158, 159, 160, 161, 162, 163] (by decide +kernel) (by decide +kernel)
set_option maxRecDepth 20000 in
theorem gX3_buyPlot_X2_cornerX : GoodIn wsX3_buyPlot (wsV RX3 97 RX2 yX2_cornerX wsX2_cornerX) := goodIn_app (goodIn_of _ (by decide +kernel)) ggX3_buyPlot_X2_cornerX
set_option maxRecDepth 20000 in
theorem ggX3_buyPlot_X2_cornerY : GoodIn wsX3_buyPlot wsX2_cornerY := goodIn_r _ [34, 35, 26, 27, 28, 18, 29, 30, 157, 158, 159, 160, 161, 162, 163] (by decide +kernel) (by decide +kernel)
set_option maxRecDepth 20000 in
theorem gX3_buyPlot_X2_cornerY : GoodIn wsX3_buyPlot (wsV RX3 100 RX2 yX2_cornerY wsX2_cornerY) := goodIn_app (goodIn_of _ (by decide +kernel)) ggX3_buyPlot_X2_cornerY
set_option maxRecDepth 20000 in
theorem ggX3_buyPlot_X2_sizeOf : GoodIn wsX3_buyPlot wsX2_sizeOf := goodIn_r _ [39, 40, 26, 27, 28, 18, 29, 30, 157, 158, 159, 160, 161, 162, 163] (by decide +kernel) (by decide +kernel)
set_option maxRecDepth 20000 in
theorem gX3_buyPlot_X2_sizeOf : GoodIn wsX3_buyPlot (wsV RX3 103 RX2 yX2_sizeOf wsX2_sizeOf) := goodIn_app (goodIn_of _ (by decide +kernel)) ggX3_buyPlot_X2_sizeOf
set_option maxRecDepth 20000 in
theorem ggX3_buyPlot_X3_needSale : GoodIn wsX3_buyPlot wsX3_needSale := goodIn_ca (goodIn_r _ [44, 45, 46, 2, 47, 48, 49, 50, 51, 52, 53, 54, 55, 56, 57, 5, 58, 59, 60, 61, 62, 13, 14, 63, 64, 65, 66, 67, 68, 69, 70, 71, 72, 73, 74, 148, 149, 150, 151, 152, 153, 154, 155, 156, 164, 165, 166, 167, 168, 169, 170, 171] (by decide +kernel) (by decide +kernel)) (goodIn_sub (fun _ h => List.mem_cons_of_mem _ (List.mem_append_right _ h)) (by decide +kernel))
set_option maxRecDepth 20000 in
theorem gX3_buyPlot_X3_needSale : GoodIn wsX3_buyPlot (wsV RX3 106 RX3 yX3_needSale wsX3_needSale) := goodIn_app (goodIn_of _ (by decide +kernel)) ggX3_buyPlot_X3_needSale
set_option maxRecDepth 20000 in
theorem ggX3_buyPlot_X3_saveState : GoodIn wsX3_buyPlot wsX3_saveState := goodIn_r _ [78, 79, 80, 81, 82, 83, 5, 84, 85, 86, 87, 88, 89, 90, 50, 2, 91, 92, 93, 94, 95, 96, 97, 56, 98, 67, 74, 99, 100, 101, 102, 103, 104, 105, 106, 107, 108, 109, 110, 111, 112, 113, 114, 148, 149, 150, 151, 152, 153, 154, 155, 156, 164, 165, 166, 167, 168, 169, 170, 171] (by decide +kernel) (by decide +kernel)
set_option maxRecDepth 20000 in
theorem gX3_buyPlot_X3_saveState : GoodIn wsX3_buyPlot (wsV RX3 63 RX3 yX3_saveState wsX3_saveState) := goodIn_app (goodIn_of _ (by decide +kernel)) ggX3_buyPlot_X3_saveState
set_option maxRecDepth 20000 in
theorem ggX3_buyPlot_X1_sell : GoodIn wsX3_buyPlot wsX1_sell := goodIn_r _ [118, 100, 70, 71, 72, 50, 73, 74, 59, 60, 61, 62, 56, 13, 5, 14, 119, 120, 121, 122, 67, 68, 69, 123, 124, 125, 126, 57, 58, 164, 165, 166, 167, 168, 169, 170, 171] (by decide +kernel) (by decide +kernel)
set_option maxRecDepth 20000 in
theorem gX3_buyPlot_X1_sell : GoodIn wsX3_buyPlot (wsV RX3 110 RX1 yX1_sell wsX1_sell) := goodIn_app (goodIn_of _ (by decide +kernel)) ggX3_buyPlot_X1_sell
set_option maxRecDepth 20000 in
theorem ggX3_buyPlot_X2_measure : GoodIn wsX3_buyPlot wsX2_measure := goodIn_r _ [130, 20, 30, 131, 104, 105, 106, 132, 133, 18, 134, 135, 16, 17, 19, 13, 5, 14, 136, 137, 138, 139, 140, 141, 53, 54, 50, 55, 56, 57, 58, 142, 143, 144, 145, 146, 25, 35, 40, 147, 60, 61, 62, 157, 158, 159, 160, 161, 162, 163, 164, 165, 166, 167, 168, 169, 170, 171] (by decide +kernel) (by decide +kernel)
set_option maxRecDepth 20000 in
theorem gX3_buyPlot_X2_measure : GoodIn wsX3_buyPlot (wsV RX3 70 RX2 yX2_measure wsX2_measure) := goodIn_app (goodIn_of _ (by decide +kernel)) ggX3_buyPlot_X2_measure
theorem dX3_buyPlot_0 : decode cX3_buyPlot 0 = .ok (.iload_n 1, 1) := by decide +kernel
theorem dX3_buyPlot_1 : decode cX3_buyPlot 1 = .ok (.invokestatic 90, 3) := by decide +kernel
theorem dX3_buyPlot_4 : decode cX3_buyPlot 4 = .ok (.iload_n 2, 1) := by decide +kernel
theorem dX3_buyPlot_5 : decode cX3_buyPlot 5 = .ok (.iload_n 3, 1) := by decide +kernel
theorem dX3_buyPlot_6 : decode cX3_buyPlot 6 = .ok (.invokestatic 51, 3) := by decide +kernel
theorem dX3_buyPlot_9 : decode cX3_buyPlot 9 = .ok (.aload_n 0, 1) := by decide +kernel
theorem dX3_buyPlot_10 : decode cX3_buyPlot 10 = .ok (.getfield 12, 3) := by decide +kernel
theorem dX3_buyPlot_13 : decode cX3_buyPlot 13 = .ok (.iload_n 2, 1) := by decide +kernel
theorem dX3_buyPlot_14 : decode cX3_buyPlot 14 = .ok (.iload_n 3, 1) := by decide +kernel
theorem dX3_buyPlot_15 : decode cX3_buyPlot 15 = .ok (.invokevirtual 93, 3) := by decide +kernel
theorem dX3_buyPlot_18 : decode cX3_buyPlot 18 = .ok (.istore 4, 2) := by decide +kernel
theorem dX3_buyPlot_20 : decode cX3_buyPlot 20 = .ok (.aload_n 0, 1) := by decide +kernel
theorem dX3_buyPlot_21 : decode cX3_buyPlot 21 = .ok (.getfield 12, 3) := by decide +kernel
theorem dX3_buyPlot_24 : decode cX3_buyPlot 24 = .ok (.iload 4, 2) := by decide +kernel
theorem dX3_buyPlot_26 : decode cX3_buyPlot 26 = .ok (.invokevirtual 97, 3) := by decide +kernel
theorem dX3_buyPlot_29 : decode cX3_buyPlot 29 = .ok (.istore 5, 2) := by decide +kernel
theorem dX3_buyPlot_31 : decode cX3_buyPlot 31 = .ok (.aload_n 0, 1) := by decide +kernel
theorem dX3_buyPlot_32 : decode cX3_buyPlot 32 = .ok (.getfield 12, 3) := by decide +kernel
theorem dX3_buyPlot_35 : decode cX3_buyPlot 35 = .ok (.iload 4, 2) := by decide +kernel
theorem dX3_buyPlot_37 : decode cX3_buyPlot 37 = .ok (.invokevirtual 100, 3) := by decide +kernel
theorem dX3_buyPlot_40 : decode cX3_buyPlot 40 = .ok (.istore 6, 2) := by decide +kernel
theorem dX3_buyPlot_42 : decode cX3_buyPlot 42 = .ok (.aload_n 0, 1) := by decide +kernel
theorem dX3_buyPlot_43 : decode cX3_buyPlot 43 = .ok (.getfield 12, 3) := by decide +kernel
theorem dX3_buyPlot_46 : decode cX3_buyPlot 46 = .ok (.iload 4, 2) := by decide +kernel
theorem dX3_buyPlot_48 : decode cX3_buyPlot 48 = .ok (.invokevirtual 103, 3) := by decide +kernel
theorem dX3_buyPlot_51 : decode cX3_buyPlot 51 = .ok (.istore 7, 2) := by decide +kernel
theorem dX3_buyPlot_53 : decode cX3_buyPlot 53 = .ok (.aload_n 0, 1) := by decide +kernel
theorem dX3_buyPlot_54 : decode cX3_buyPlot 54 = .ok (.iload_n 1, 1) := by decide +kernel
theorem dX3_buyPlot_55 : decode cX3_buyPlot 55 = .ok (.iload 5, 2) := by decide +kernel
theorem dX3_buyPlot_57 : decode cX3_buyPlot 57 = .ok (.iload 6, 2) := by decide +kernel
theorem dX3_buyPlot_59 : decode cX3_buyPlot 59 = .ok (.iload 7, 2) := by decide +kernel
theorem dX3_buyPlot_61 : decode cX3_buyPlot 61 = .ok (.invokevirtual 106, 3) := by decide +kernel
theorem dX3_buyPlot_64 : decode cX3_buyPlot 64 = .ok (.aload_n 0, 1) := by decide +kernel
theorem dX3_buyPlot_65 : decode cX3_buyPlot 65 = .ok (.invokevirtual 63, 3) := by decide +kernel
theorem dX3_buyPlot_68 : decode cX3_buyPlot 68 = .ok (.aload_n 0, 1) := by decide +kernel
theorem dX3_buyPlot_69 : decode cX3_buyPlot 69 = .ok (.getfield 20, 3) := by decide +kernel
theorem dX3_buyPlot_72 : decode cX3_buyPlot 72 = .ok (.iload_n 1, 1) := by decide +kernel
theorem dX3_buyPlot_73 : decode cX3_buyPlot 73 = .ok (.iload 5, 2) := by decide +kernel
theorem dX3_buyPlot_75 : decode cX3_buyPlot 75 = .ok (.iload 6, 2) := by decide +kernel
theorem dX3_buyPlot_77 : decode cX3_buyPlot 77 = .ok (.iload 7, 2) := by decide +kernel
theorem dX3_buyPlot_79 : decode cX3_buyPlot 79 = .ok (.invokevirtual 110, 3) := by decide +kernel
theorem dX3_buyPlot_82 : decode cX3_buyPlot 82 = .ok (.istore 8, 2) := by decide +kernel
theorem dX3_buyPlot_84 : decode cX3_buyPlot 84 = .ok (.aload_n 0, 1) := by decide +kernel
theorem dX3_buyPlot_85 : decode cX3_buyPlot 85 = .ok (.getfield 12, 3) := by decide +kernel
theorem dX3_buyPlot_88 : decode cX3_buyPlot 88 = .ok (.invokevirtual 70, 3) := by decide +kernel
theorem dX3_buyPlot_91 : decode cX3_buyPlot 91 = .ok (.iload 8, 2) := by decide +kernel
theorem dX3_buyPlot_93 : decode cX3_buyPlot 93 = .ok (.ireturn, 1) := by decide +kernel
set_option maxRecDepth 20000 in
theorem ggX3_buySquare_X3_needPerson : GoodIn wsX3_buySquare wsX3_needPerson := goodIn_ca (goodIn_r _ [6, 7, 8] (by decide +kernel) (by decide +kernel)) (goodIn_sub (fun _ h => List.mem_cons_of_mem _ (List.mem_append_left _ (List.mem_append_left _ (List.mem_append_right _ h)))) (by decide +kernel))
set_option maxRecDepth 20000 in
theorem gX3_buySquare_X3_needPerson : GoodIn wsX3_buySquare (va_wsS RX3 90 yX3_needPerson wsX3_needPerson) := goodIn_app (goodIn_of _ (by decide +kernel)) ggX3_buySquare_X3_needPerson
set_option maxRecDepth 20000 in
theorem ggX3_buySquare_X3_needCell : GoodIn wsX3_buySquare wsX3_needCell := goodIn_ca (goodIn_r _ [11, 7, 8, 12, 13, 5, 14] (by decide +kernel) (by decide +kernel)) (goodIn_sub (fun _ h => List.mem_cons_of_mem _ (List.mem_append_left _ (List.mem_append_left _ (List.mem_append_right _ h)))) (by decide +kernel))
set_option maxRecDepth 20000 in
theorem gX3_buySquare_X3_needCell : GoodIn wsX3_buySquare (va_wsS RX3 51 yX3_needCell wsX3_needCell) := goodIn_app (goodIn_of _ (by decide +kernel)) ggX3_buySquare_X3_needCell
set_option maxRecDepth 20000 in
theorem ggX3_buySquare_X3_needSquare : GoodIn wsX3_buySquare wsX3_needSquare := goodIn_ca (goodIn_r _ [17, 18, 19, 20, 21, 5, 22] (by decide +kernel) (by decide +kernel)) (goodIn_sub (fun _ h => List.mem_cons_of_mem _ (List.mem_append_left _ (List.mem_append_right _ h))) (by decide +kernel))
set_option maxRecDepth 20000 in
theorem gX3_buySquare_X3_needSquare : GoodIn wsX3_buySquare (va_wsS RX3 59 yX3_needSquare wsX3_needSquare) := goodIn_app (goodIn_of _ (by decide +kernel)) ggX3_buySquare_X3_needSquare
set_option maxRecDepth 20000 in
theorem ggX3_buySquare_X3_needSale : GoodIn wsX3_buySquare wsX3_needSale := goodIn_ca (goodIn_r _ [26, 27, 28, 1, 29, 30, 31, 32, 33, 34, 35, 36, 37, 38, 21, 5, 22, 39, 40, 41, 42, 13, 14, 43, 44, 45, 46, 47, 48, 49, 50, 51, 52, 53, 54, 137, 138, 139, 140, 141, 142, 143, 144, 145, 146, 147, 148, 149, 150, 151, 152, 153] (by decide +kernel) (by decide +kernel)) (goodIn_sub (fun _ h => List.mem_cons_of_mem _ (List.mem_append_right _ h)) (by decide +kernel))
set_option maxRecDepth 20000 in
theorem gX3_buySquare_X3_needSale : GoodIn wsX3_buySquare (wsV RX3 106 RX3 yX3_needSale wsX3_needSale) := goodIn_app (goodIn_of _ (by decide +kernel)) ggX3_buySquare_X3_needSale
set_option maxRecDepth 20000 in
theorem ggX3_buySquare_X3_saveState : GoodIn wsX3_buySquare wsX3_saveState := goodIn_r _ [58, 59, 60, 61, 62, 63, 5, 64, 65, 66, 67, 68, 69, 70, 32, 1, 71, 72, 73, 74, 75, 76, 77, 38, 78, 47, 54, 79, 80, 81, 82, 83, 84, 85, 86, 87, 88, 89, 90, 91, 92, 93, 94, 137, 138, 139, 140, 141, 142, 143, 144, 145, 146, 147, 148, 149, 150, 151, 152, 153] (by decide +kernel) (by decide +kernel)
set_option maxRecDepth 20000 in
theorem gX3_buySquare_X3_saveState : GoodIn wsX3_buySquare (wsV RX3 63 RX3 yX3_saveState wsX3_saveState) := goodIn_app (goodIn_of _ (by decide +kernel)) ggX3_buySquare_X3_saveState
set_option maxRecDepth 20000 in
theorem ggX3_buySquare_X1_sell : GoodIn wsX3_buySquare wsX1_sell := goodIn_r _ [98, 80, 50, 51, 52, 32, 53, 54, 39, 40, 41, 42, 38, 13, 5, 14, 99, 100, 101, 102, 47, 48, 49, 103, 104, 105, 106, 21, 22, 146, 147, 148, 149, 150, 151, 152, 153] (by decide +kernel) (by decide +kernel)
set_option maxRecDepth 20000 in
theorem gX3_buySquare_X1_sell : GoodIn wsX3_buySquare (wsV RX3 110 RX1 yX1_sell wsX1_sell) := goodIn_app (goodIn_of _ (by decide +kernel)) ggX3_buySquare_X1_sell
set_option maxRecDepth 20000 in
theorem ggX3_buySquare_X2_measure : GoodIn wsX3_buySquare wsX2_measure := goodIn_r _ [111, 112, 113, 114, 84, 85, 86, 115, 116, 110, 117, 118, 119, 120, 121, 13, 5, 14, 122, 123, 124, 125, 126, 127, 35, 36, 32, 37, 38, 21, 22, 128, 129, 130, 131, 132, 133, 134, 135, 136, 40, 41, 42, 154, 155, 156, 157, 158, 159, 160, 146, 147, 148, 149, 150, 151, 152, 153] (by decide +kernel) (by decide +kernel)
set_option maxRecDepth 20000 in
theorem gX3_buySquare_X2_measure : GoodIn wsX3_buySquare (wsV RX3 70 RX2 yX2_measure wsX2_measure) := goodIn_app (goodIn_of _ (by decide +kernel)) ggX3_buySquare_X2_measure
theorem dX3_buySquare_0 : decode cX3_buySquare 0 = .ok (.iload_n 1, 1) := by decide +kernel
theorem dX3_buySquare_1 : decode cX3_buySquare 1 = .ok (.invokestatic 90, 3) := by decide +kernel
theorem dX3_buySquare_4 : decode cX3_buySquare 4 = .ok (.iload_n 2, 1) := by decide +kernel
theorem dX3_buySquare_5 : decode cX3_buySquare 5 = .ok (.iload_n 3, 1) := by decide +kernel
theorem dX3_buySquare_6 : decode cX3_buySquare 6 = .ok (.invokestatic 51, 3) := by decide +kernel
theorem dX3_buySquare_9 : decode cX3_buySquare 9 = .ok (.iload_n 2, 1) := by decide +kernel
theorem dX3_buySquare_10 : decode cX3_buySquare 10 = .ok (.iload_n 3, 1) := by decide +kernel
theorem dX3_buySquare_11 : decode cX3_buySquare 11 = .ok (.iload 4, 2) := by decide +kernel
theorem dX3_buySquare_13 : decode cX3_buySquare 13 = .ok (.invokestatic 59, 3) := by decide +kernel
theorem dX3_buySquare_16 : decode cX3_buySquare 16 = .ok (.aload_n 0, 1) := by decide +kernel
theorem dX3_buySquare_17 : decode cX3_buySquare 17 = .ok (.iload_n 1, 1) := by decide +kernel
theorem dX3_buySquare_18 : decode cX3_buySquare 18 = .ok (.iload_n 2, 1) := by decide +kernel
theorem dX3_buySquare_19 : decode cX3_buySquare 19 = .ok (.iload_n 3, 1) := by decide +kernel
theorem dX3_buySquare_20 : decode cX3_buySquare 20 = .ok (.iload 4, 2) := by decide +kernel
theorem dX3_buySquare_22 : decode cX3_buySquare 22 = .ok (.invokevirtual 106, 3) := by decide +kernel
theorem dX3_buySquare_25 : decode cX3_buySquare 25 = .ok (.aload_n 0, 1) := by decide +kernel
theorem dX3_buySquare_26 : decode cX3_buySquare 26 = .ok (.invokevirtual 63, 3) := by decide +kernel
theorem dX3_buySquare_29 : decode cX3_buySquare 29 = .ok (.aload_n 0, 1) := by decide +kernel
theorem dX3_buySquare_30 : decode cX3_buySquare 30 = .ok (.getfield 20, 3) := by decide +kernel
theorem dX3_buySquare_33 : decode cX3_buySquare 33 = .ok (.iload_n 1, 1) := by decide +kernel
theorem dX3_buySquare_34 : decode cX3_buySquare 34 = .ok (.iload_n 2, 1) := by decide +kernel
theorem dX3_buySquare_35 : decode cX3_buySquare 35 = .ok (.iload_n 3, 1) := by decide +kernel
theorem dX3_buySquare_36 : decode cX3_buySquare 36 = .ok (.iload 4, 2) := by decide +kernel
theorem dX3_buySquare_38 : decode cX3_buySquare 38 = .ok (.invokevirtual 110, 3) := by decide +kernel
theorem dX3_buySquare_41 : decode cX3_buySquare 41 = .ok (.istore 5, 2) := by decide +kernel
theorem dX3_buySquare_43 : decode cX3_buySquare 43 = .ok (.aload_n 0, 1) := by decide +kernel
theorem dX3_buySquare_44 : decode cX3_buySquare 44 = .ok (.getfield 12, 3) := by decide +kernel
theorem dX3_buySquare_47 : decode cX3_buySquare 47 = .ok (.invokevirtual 70, 3) := by decide +kernel
theorem dX3_buySquare_50 : decode cX3_buySquare 50 = .ok (.iload 5, 2) := by decide +kernel
theorem dX3_buySquare_52 : decode cX3_buySquare 52 = .ok (.ireturn, 1) := by decide +kernel
set_option maxRecDepth 20000 in
theorem ggX3_collectTaxes_X3_saveState : GoodIn wsX3_collectTaxes wsX3_saveState := goodIn_r _ [6, 7, 8, 9, 10, 11, 5, 12, 13, 14, 15, 16, 17, 18, 19, 20, 21, 22, 23, 24, 25, 26, 27, 28, 29, 30, 31, 32, 33, 34, 35, 36, 37, 38, 39, 40, 41, 42, 43, 44, 45, 46, 47, 142, 143, 144, 145, 146, 147, 148, 149, 150, 151, 152, 153, 154, 155, 156, 157, 158] (by decide +kernel) (by decide +kernel)
set_option maxRecDepth 20000 in
theorem gX3_collectTaxes_X3_saveState : GoodIn wsX3_collectTaxes (wsV RX3 63 RX3 yX3_saveState wsX3_saveState) := goodIn_app (goodIn_of _ (by decide +kernel)) ggX3_collectTaxes_X3_saveState
set_option maxRecDepth 20000 in
theorem ggX3_collectTaxes_X3_takeTaxes : GoodIn wsX3_collectTaxes wsX3_takeTaxes := goodIn_r _ [51, 20, 1, 52, 53, 54, 5, 55, 56, 57, 58, 59, 60, 61, 62, 63, 64, 65, 19, 66, 30, 67, 68, 69, 70, 71, 72, 73, 74, 75, 76, 77, 78, 79, 80, 81, 82, 83, 84, 85, 86, 87, 88, 89, 90, 91, 92, 93, 94, 95, 96, 97, 98, 99, 28, 100, 101, 102, 103, 104, 105, 106, 107, 108, 109, 142, 143, 144, 145, 146, 147, 148, 149, 150, 151, 152, 153, 154, 155, 156, 157, 158, 159, 160, 161, 162, 163, 164, 165] (by decide +kernel) (by decide +kernel)
set_option maxRecDepth 20000 in
theorem gX3_collectTaxes_X3_takeTaxes : GoodIn wsX3_collectTaxes (wsV RX3 113 RX3 yX3_takeTaxes wsX3_takeTaxes) := goodIn_app (goodIn_of _ (by decide +kernel)) ggX3_collectTaxes_X3_takeTaxes
set_option maxRecDepth 20000 in
theorem ggX3_collectTaxes_X2_measure : GoodIn wsX3_collectTaxes wsX2_measure := goodIn_r _ [113, 114, 61, 115, 37, 38, 39, 116, 117, 59, 118, 119, 120, 121, 122, 123, 5, 124, 125, 126, 127, 128, 129, 130, 131, 132, 19, 133, 28, 100, 101, 134, 135, 136, 137, 62, 82, 91, 77, 138, 139, 140, 141, 159, 160, 161, 162, 163, 164, 165, 151, 152, 153, 154, 155, 156, 157, 158] (by decide +kernel) (by decide +kernel)
set_option maxRecDepth 20000 in
theorem gX3_collectTaxes_X2_measure : GoodIn wsX3_collectTaxes (wsV RX3 70 RX2 yX2_measure wsX2_measure) := goodIn_app (goodIn_of _ (by decide +kernel)) ggX3_collectTaxes_X2_measure
theorem dX3_collectTaxes_0 : decode cX3_collectTaxes 0 = .ok (.aload_n 0, 1) := by decide +kernel
theorem dX3_collectTaxes_1 : decode cX3_collectTaxes 1 = .ok (.invokevirtual 63, 3) := by decide +kernel
theorem dX3_collectTaxes_4 : decode cX3_collectTaxes 4 = .ok (.aload_n 0, 1) := by decide +kernel
theorem dX3_collectTaxes_5 : decode cX3_collectTaxes 5 = .ok (.invokevirtual 113, 3) := by decide +kernel
theorem dX3_collectTaxes_8 : decode cX3_collectTaxes 8 = .ok (.istore_n 1, 1) := by decide +kernel
theorem dX3_collectTaxes_9 : decode cX3_collectTaxes 9 = .ok (.aload_n 0, 1) := by decide +kernel
theorem dX3_collectTaxes_10 : decode cX3_collectTaxes 10 = .ok (.getfield 12, 3) := by decide +kernel
theorem dX3_collectTaxes_13 : decode cX3_collectTaxes 13 = .ok (.invokevirtual 70, 3) := by decide +kernel
theorem dX3_collectTaxes_16 : decode cX3_collectTaxes 16 = .ok (.iload_n 1, 1) := by decide +kernel
theorem dX3_collectTaxes_17 : decode cX3_collectTaxes 17 = .ok (.ireturn, 1) := by decide +kernel
set_option maxRecDepth 20000 in
theorem ggX3_setPrice_X3_saveState : GoodIn wsX3_setPrice wsX3_saveState := goodIn_r _ [8, 9, 10, 11, 12, 13, 7, 14, 15, 16, 17, 18, 19, 20, 21, 3, 22, 23, 24, 25, 26, 27, 28, 29, 30, 31, 32, 33, 34, 35, 36, 37, 38, 39, 40, 41, 42, 43, 44, 45, 46, 47, 48, 49, 50, 51, 52, 53, 54, 55, 56, 57, 58, 59, 60, 61, 62, 63, 64, 65] (by decide +kernel) (by decide +kernel)
set_option maxRecDepth 20000 in
theorem gX3_setPrice_X3_saveState : GoodIn wsX3_setPrice (wsV RX3 63 RX3 yX3_saveState wsX3_saveState) := goodIn_app (goodIn_of _ (by decide +kernel)) ggX3_setPrice_X3_saveState
theorem dX3_setPrice_0 : decode cX3_setPrice 0 = .ok (.iload_n 1, 1) := by decide +kernel
theorem dX3_setPrice_1 : decode cX3_setPrice 1 = .ok (.iconst 1, 1) := by decide +kernel
theorem dX3_setPrice_2 : decode cX3_setPrice 2 = .ok (.if_icmp .lt 9, 3) := by decide +kernel
theorem dX3_setPrice_5 : decode cX3_setPrice 5 = .ok (.iload_n 1, 1) := by decide +kernel
theorem dX3_setPrice_6 : decode cX3_setPrice 6 = .ok (.bipush 9, 2) := by decide +kernel
theorem dX3_setPrice_8 : decode cX3_setPrice 8 = .ok (.if_icmp .le 13, 3) := by decide +kernel
theorem dX3_setPrice_11 : decode cX3_setPrice 11 = .ok (.new 73, 3) := by decide +kernel
theorem dX3_setPrice_14 : decode cX3_setPrice 14 = .ok (.dup, 1) := by decide +kernel
theorem dX3_setPrice_15 : decode cX3_setPrice 15 = .ok (.ldc 117, 2) := by decide +kernel
theorem dX3_setPrice_17 : decode cX3_setPrice 17 = .ok (.invokespecial 77, 3) := by decide +kernel
theorem dX3_setPrice_20 : decode cX3_setPrice 20 = .ok (.athrow, 1) := by decide +kernel
theorem dX3_setPrice_21 : decode cX3_setPrice 21 = .ok (.aload_n 0, 1) := by decide +kernel
theorem dX3_setPrice_22 : decode cX3_setPrice 22 = .ok (.invokevirtual 63, 3) := by decide +kernel
theorem dX3_setPrice_25 : decode cX3_setPrice 25 = .ok (.aload_n 0, 1) := by decide +kernel
theorem dX3_setPrice_26 : decode cX3_setPrice 26 = .ok (.getfield 20, 3) := by decide +kernel
theorem dX3_setPrice_29 : decode cX3_setPrice 29 = .ok (.getfield 119, 3) := by decide +kernel
theorem dX3_setPrice_32 : decode cX3_setPrice 32 = .ok (.istore_n 2, 1) := by decide +kernel
theorem dX3_setPrice_33 : decode cX3_setPrice 33 = .ok (.aload_n 0, 1) := by decide +kernel
theorem dX3_setPrice_34 : decode cX3_setPrice 34 = .ok (.getfield 20, 3) := by decide +kernel
theorem dX3_setPrice_37 : decode cX3_setPrice 37 = .ok (.iload_n 1, 1) := by decide +kernel
theorem dX3_setPrice_38 : decode cX3_setPrice 38 = .ok (.putfield 119, 3) := by decide +kernel
theorem dX3_setPrice_41 : decode cX3_setPrice 41 = .ok (.iload_n 2, 1) := by decide +kernel
theorem dX3_setPrice_42 : decode cX3_setPrice 42 = .ok (.ireturn, 1) := by decide +kernel
set_option maxRecDepth 20000 in
theorem ggX3_setTax_X3_saveState : GoodIn wsX3_setTax wsX3_saveState := goodIn_r _ [8, 9, 10, 11, 12, 13, 7, 14, 15, 16, 17, 18, 19, 20, 21, 3, 22, 23, 24, 25, 26, 27, 28, 29, 30, 31, 32, 33, 34, 35, 36, 37, 38, 39, 40, 41, 42, 43, 44, 45, 46, 47, 48, 49, 50, 51, 52, 53, 54, 55, 56, 57, 58, 59, 60, 61, 62, 63, 64, 65] (by decide +kernel) (by decide +kernel)
set_option maxRecDepth 20000 in
theorem gX3_setTax_X3_saveState : GoodIn wsX3_setTax (wsV RX3 63 RX3 yX3_saveState wsX3_saveState) := goodIn_app (goodIn_of _ (by decide +kernel)) ggX3_setTax_X3_saveState
theorem dX3_setTax_0 : decode cX3_setTax 0 = .ok (.iload_n 1, 1) := by decide +kernel
theorem dX3_setTax_1 : decode cX3_setTax 1 = .ok (.ifCond .lt 9, 3) := by decide +kernel
theorem dX3_setTax_4 : decode cX3_setTax 4 = .ok (.iload_n 1, 1) := by decide +kernel
theorem dX3_setTax_5 : decode cX3_setTax 5 = .ok (.bipush 9, 2) := by decide +kernel
theorem dX3_setTax_7 : decode cX3_setTax 7 = .ok (.if_icmp .le 13, 3) := by decide +kernel
theorem dX3_setTax_10 : decode cX3_setTax 10 = .ok (.new 73, 3) := by decide +kernel
theorem dX3_setTax_13 : decode cX3_setTax 13 = .ok (.dup, 1) := by decide +kernel
theorem dX3_setTax_14 : decode cX3_setTax 14 = .ok (.ldc 122, 2) := by decide +kernel
theorem dX3_setTax_16 : decode cX3_setTax 16 = .ok (.invokespecial 77, 3) := by decide +kernel
theorem dX3_setTax_19 : decode cX3_setTax 19 = .ok (.athrow, 1) := by decide +kernel
theorem dX3_setTax_20 : decode cX3_setTax 20 = .ok (.aload_n 0, 1) := by decide +kernel
theorem dX3_setTax_21 : decode cX3_setTax 21 = .ok (.invokevirtual 63, 3) := by decide +kernel
theorem dX3_setTax_24 : decode cX3_setTax 24 = .ok (.aload_n 0, 1) := by decide +kernel
theorem dX3_setTax_25 : decode cX3_setTax 25 = .ok (.getfield 20, 3) := by decide +kernel
theorem dX3_setTax_28 : decode cX3_setTax 28 = .ok (.getfield 124, 3) := by decide +kernel
theorem dX3_setTax_31 : decode cX3_setTax 31 = .ok (.istore_n 2, 1) := by decide +kernel
theorem dX3_setTax_32 : decode cX3_setTax 32 = .ok (.aload_n 0, 1) := by decide +kernel
theorem dX3_setTax_33 : decode cX3_setTax 33 = .ok (.getfield 20, 3) := by decide +kernel
theorem dX3_setTax_36 : decode cX3_setTax 36 = .ok (.iload_n 1, 1) := by decide +kernel
theorem dX3_setTax_37 : decode cX3_setTax 37 = .ok (.putfield 124, 3) := by decide +kernel
theorem dX3_setTax_40 : decode cX3_setTax 40 = .ok (.iload_n 2, 1) := by decide +kernel
theorem dX3_setTax_41 : decode cX3_setTax 41 = .ok (.ireturn, 1) := by decide +kernel
theorem dX3_append_0 : decode cX3_append 0 = .ok (.iload_n 1, 1) := by decide +kernel
theorem dX3_append_1 : decode cX3_append 1 = .ok (.bipush 33, 2) := by decide +kernel
theorem dX3_append_3 : decode cX3_append 3 = .ok (.if_icmp .lt 9, 3) := by decide +kernel
theorem dX3_append_6 : decode cX3_append 6 = .ok (.iload_n 1, 1) := by decide +kernel
theorem dX3_append_7 : decode cX3_append 7 = .ok (.bipush 126, 2) := by decide +kernel
theorem dX3_append_9 : decode cX3_append 9 = .ok (.if_icmp .le 13, 3) := by decide +kernel
theorem dX3_append_12 : decode cX3_append 12 = .ok (.new 73, 3) := by decide +kernel
theorem dX3_append_15 : decode cX3_append 15 = .ok (.dup, 1) := by decide +kernel
theorem dX3_append_16 : decode cX3_append 16 = .ok (.ldc 127, 2) := by decide +kernel
theorem dX3_append_18 : decode cX3_append 18 = .ok (.invokespecial 77, 3) := by decide +kernel
theorem dX3_append_21 : decode cX3_append 21 = .ok (.athrow, 1) := by decide +kernel
theorem dX3_append_22 : decode cX3_append 22 = .ok (.aload_n 0, 1) := by decide +kernel
theorem dX3_append_23 : decode cX3_append 23 = .ok (.getfield 41, 3) := by decide +kernel
theorem dX3_append_26 : decode cX3_append 26 = .ok (.ifCond .lt 12, 3) := by decide +kernel
theorem dX3_append_29 : decode cX3_append 29 = .ok (.aload_n 0, 1) := by decide +kernel
theorem dX3_append_30 : decode cX3_append 30 = .ok (.getfield 41, 3) := by decide +kernel
theorem dX3_append_33 : decode cX3_append 33 = .ok (.bipush 60, 2) := by decide +kernel
theorem dX3_append_35 : decode cX3_append 35 = .ok (.if_icmp .lt 13, 3) := by decide +kernel
theorem dX3_append_38 : decode cX3_append 38 = .ok (.new 129, 3) := by decide +kernel
theorem dX3_append_41 : decode cX3_append 41 = .ok (.dup, 1) := by decide +kernel
theorem dX3_append_42 : decode cX3_append 42 = .ok (.ldc 131, 2) := by decide +kernel
theorem dX3_append_44 : decode cX3_append 44 = .ok (.invokespecial 133, 3) := by decide +kernel
theorem dX3_append_47 : decode cX3_append 47 = .ok (.athrow, 1) := by decide +kernel
theorem dX3_append_48 : decode cX3_append 48 = .ok (.aload_n 0, 1) := by decide +kernel
theorem dX3_append_49 : decode cX3_append 49 = .ok (.getfield 37, 3) := by decide +kernel
theorem dX3_append_52 : decode cX3_append 52 = .ok (.aload_n 0, 1) := by decide +kernel
theorem dX3_append_53 : decode cX3_append 53 = .ok (.getfield 41, 3) := by decide +kernel
theorem dX3_append_56 : decode cX3_append 56 = .ok (.iload_n 1, 1) := by decide +kernel
theorem dX3_append_57 : decode cX3_append 57 = .ok (.i2c, 1) := by decide +kernel
theorem dX3_append_58 : decode cX3_append 58 = .ok (.castore, 1) := by decide +kernel
theorem dX3_append_59 : decode cX3_append 59 = .ok (.aload_n 0, 1) := by decide +kernel
theorem dX3_append_60 : decode cX3_append 60 = .ok (.dup, 1) := by decide +kernel
theorem dX3_append_61 : decode cX3_append 61 = .ok (.getfield 41, 3) := by decide +kernel
theorem dX3_append_64 : decode cX3_append 64 = .ok (.iconst 1, 1) := by decide +kernel
theorem dX3_append_65 : decode cX3_append 65 = .ok (.iadd, 1) := by decide +kernel
theorem dX3_append_66 : decode cX3_append 66 = .ok (.putfield 41, 3) := by decide +kernel
theorem dX3_append_69 : decode cX3_append 69 = .ok (.aload_n 0, 1) := by decide +kernel
theorem dX3_append_70 : decode cX3_append 70 = .ok (.getfield 41, 3) := by decide +kernel
theorem dX3_append_73 : decode cX3_append 73 = .ok (.ireturn, 1) := by decide +kernel
theorem dX3_clearBuffer_0 : decode cX3_clearBuffer 0 = .ok (.aload_n 0, 1) := by decide +kernel
theorem dX3_clearBuffer_1 : decode cX3_clearBuffer 1 = .ok (.getfield 41, 3) := by decide +kernel
theorem dX3_clearBuffer_4 : decode cX3_clearBuffer 4 = .ok (.istore_n 1, 1) := by decide +kernel
theorem dX3_clearBuffer_5 : decode cX3_clearBuffer 5 = .ok (.aload_n 0, 1) := by decide +kernel
theorem dX3_clearBuffer_6 : decode cX3_clearBuffer 6 = .ok (.iconst 0, 1) := by decide +kernel
theorem dX3_clearBuffer_7 : decode cX3_clearBuffer 7 = .ok (.putfield 41, 3) := by decide +kernel
theorem dX3_clearBuffer_10 : decode cX3_clearBuffer 10 = .ok (.iload_n 1, 1) := by decide +kernel
theorem dX3_clearBuffer_11 : decode cX3_clearBuffer 11 = .ok (.ireturn, 1) := by decide +kernel
theorem dX3_bufferLength_0 : decode cX3_bufferLength 0 = .ok (.aload_n 0, 1) := by decide +kernel
theorem dX3_bufferLength_1 : decode cX3_bufferLength 1 = .ok (.getfield 41, 3) := by decide +kernel
theorem dX3_bufferLength_4 : decode cX3_bufferLength 4 = .ok (.ireturn, 1) := by decide +kernel
set_option maxRecDepth 20000 in
theorem ggX3_firstError_X3_readBuffer : GoodIn wsX3_firstError wsX3_readBuffer := goodIn_r _ [5, 6, 7, 8, 9, 10, 11, 12, 13, 14, 15, 16, 17, 18, 19, 20, 21, 22, 23, 24, 25, 26, 27, 28, 29, 30, 31, 32, 33, 34, 35, 36, 37, 38, 39, 40, 41, 42, 43, 44, 45, 46, 47, 48, 49, 50, 51, 52, 53, 54, 55, 56, 57, 58, 59, 60, 61, 62, 63, 64, 65, 66, 67, 68, 69, 70, 71, 72, 73, 74, 75, 76] (by decide +kernel) (by decide +kernel)
set_option maxRecDepth 20000 in
theorem gX3_firstError_X3_readBuffer : GoodIn wsX3_firstError (wsV RX3 134 RX3 yX3_readBuffer wsX3_readBuffer) := goodIn_app (goodIn_of _ (by decide +kernel)) ggX3_firstError_X3_readBuffer
theorem dX3_firstError_0 : decode cX3_firstError 0 = .ok (.aload_n 0, 1) := by decide +kernel
theorem dX3_firstError_1 : decode cX3_firstError 1 = .ok (.invokevirtual 134, 3) := by decide +kernel
theorem dX3_firstError_4 : decode cX3_firstError 4 = .ok (.ireturn, 1) := by decide +kernel
set_option maxRecDepth 20000 in
theorem ggX3_carryOut_X3_readBuffer : GoodIn wsX3_carryOut wsX3_readBuffer := goodIn_r _ [9, 4, 3, 10, 11, 12, 13, 14, 15, 16, 17, 18, 19, 20, 21, 22, 23, 24, 25, 26, 27, 28, 29, 30, 31, 32, 33, 34, 35, 36, 37, 38, 39, 40, 41, 42, 43, 44, 45, 46, 47, 48, 49, 50, 51, 52, 53, 54, 55, 56, 57, 58, 59, 60, 61, 62, 265, 266, 267, 268, 269, 270, 271, 272, 273, 274, 275, 276, 277, 278, 279, 280] (by decide +kernel) (by decide +kernel)
set_option maxRecDepth 20000 in
theorem gX3_carryOut_X3_readBuffer : GoodIn wsX3_carryOut (wsV RX3 134 RX3 yX3_readBuffer wsX3_readBuffer) := goodIn_app (goodIn_of _ (by decide +kernel)) ggX3_carryOut_X3_readBuffer
set_option maxRecDepth 20000 in
theorem ggX3_carryOut_X0_isAtDeedEnd : GoodIn wsX3_carryOut wsX0_isAtDeedEnd := goodIn_r _ [66, 16, 274, 275, 276, 277, 278, 279, 280] (by decide +kernel) (by decide +kernel)
set_option maxRecDepth 20000 in
theorem gX3_carryOut_X0_isAtDeedEnd : GoodIn wsX3_carryOut (wsV RX3 137 RX0 yX0_isAtDeedEnd wsX0_isAtDeedEnd) := goodIn_app (goodIn_of _ (by decide +kernel)) ggX3_carryOut_X0_isAtDeedEnd
set_option maxRecDepth 20000 in
theorem ggX3_carryOut_X3_saveState : GoodIn wsX3_carryOut wsX3_saveState := goodIn_r _ [70, 71, 72, 73, 74, 75, 8, 76, 77, 78, 79, 80, 81, 82, 83, 84, 85, 86, 87, 88, 89, 90, 91, 92, 93, 94, 95, 96, 97, 98, 99, 100, 101, 102, 103, 104, 105, 106, 107, 108, 109, 110, 111, 265, 266, 267, 268, 269, 270, 271, 272, 273, 281, 282, 283, 284, 285, 286, 287, 288] (by decide +kernel) (by decide +kernel)
set_option maxRecDepth 20000 in
theorem gX3_carryOut_X3_saveState : GoodIn wsX3_carryOut (wsV RX3 63 RX3 yX3_saveState wsX3_saveState) := goodIn_app (goodIn_of _ (by decide +kernel)) ggX3_carryOut_X3_saveState
set_option maxRecDepth 20000 in
theorem ggX3_carryOut_X3_obeyBuffer : GoodIn wsX3_carryOut wsX3_obeyBuffer := goodIn_r _ [115, 4, 3, 10, 116, 11, 12, 13, 14, 15, 16, 17, 18, 19, 20, 21, 22, 23, 24, 25, 26, 27, 28, 29, 30, 31, 32, 33, 34, 35, 36, 37, 38, 39, 40, 41, 42, 43, 44, 45, 46, 47, 48, 49, 50, 51, 52, 53, 54, 55, 56, 57, 58, 59, 60, 61, 62, 63, 64, 65, 66, 117, 118, 119, 8, 120, 84, 121, 122, 123, 124, 125, 126, 127, 128, 129, 130, 83, 131, 92, 132, 133, 134, 135, 136, 137, 138, 139, 140, 141, 142, 143, 93, 144, 145, 146, 147, 148, 149, 150, 151, 152, 153, 154, 155, 156, 157, 158, 159, 160, 161, 162, 163, 164, 165, 166, 167, 168, 169, 170, 171, 172, 173, 174, 175, 176, 177, 178, 179, 180, 181, 182, 183, 184, 185, 186, 187, 188, 189, 190, 191, 192, 193, 194, 195, 196, 197, 198, 94, 199, 200, 201, 202, 203, 204, 95, 205, 206, 207, 208, 97, 209, 210, 211, 212, 213, 214, 215, 216, 217, 98, 218, 219, 220, 221, 222, 223, 224, 225, 226, 227, 228, 229, 230, 231, 232, 233, 234, 235, 236, 237, 238, 239, 240, 241, 242, 243, 244, 245, 246, 247, 248, 249, 101, 102, 103, 250, 251, 252, 253, 254, 255, 256, 257, 258, 259, 260, 261, 262, 263, 264, 265, 266, 267, 268, 269, 270, 271, 272, 273, 274, 275, 276, 277, 278, 279, 280, 281, 282, 283, 284, 285, 286, 287, 288, 289, 290, 291, 292, 293, 294, 295] (by decide +kernel) (by decide +kernel)
set_option maxRecDepth 20000 in
theorem gX3_carryOut_X3_obeyBuffer : GoodIn wsX3_carryOut (wsV RX3 143 RX3 yX3_obeyBuffer wsX3_obeyBuffer) := goodIn_app (goodIn_of _ (by decide +kernel)) ggX3_carryOut_X3_obeyBuffer
theorem dX3_carryOut_0 : decode cX3_carryOut 0 = .ok (.aload_n 0, 1) := by decide +kernel
theorem dX3_carryOut_1 : decode cX3_carryOut 1 = .ok (.invokevirtual 134, 3) := by decide +kernel
theorem dX3_carryOut_4 : decode cX3_carryOut 4 = .ok (.aload_n 0, 1) := by decide +kernel
theorem dX3_carryOut_5 : decode cX3_carryOut 5 = .ok (.getfield 41, 3) := by decide +kernel
theorem dX3_carryOut_8 : decode cX3_carryOut 8 = .ok (.if_icmp .lt 13, 3) := by decide +kernel
theorem dX3_carryOut_11 : decode cX3_carryOut 11 = .ok (.aload_n 0, 1) := by decide +kernel
theorem dX3_carryOut_12 : decode cX3_carryOut 12 = .ok (.getfield 47, 3) := by decide +kernel
theorem dX3_carryOut_15 : decode cX3_carryOut 15 = .ok (.invokevirtual 137, 3) := by decide +kernel
theorem dX3_carryOut_18 : decode cX3_carryOut 18 = .ok (.ifCond .ne 13, 3) := by decide +kernel
theorem dX3_carryOut_21 : decode cX3_carryOut 21 = .ok (.new 73, 3) := by decide +kernel
theorem dX3_carryOut_24 : decode cX3_carryOut 24 = .ok (.dup, 1) := by decide +kernel
theorem dX3_carryOut_25 : decode cX3_carryOut 25 = .ok (.ldc 141, 2) := by decide +kernel
theorem dX3_carryOut_27 : decode cX3_carryOut 27 = .ok (.invokespecial 77, 3) := by decide +kernel
theorem dX3_carryOut_30 : decode cX3_carryOut 30 = .ok (.athrow, 1) := by decide +kernel
theorem dX3_carryOut_31 : decode cX3_carryOut 31 = .ok (.aload_n 0, 1) := by decide +kernel
theorem dX3_carryOut_32 : decode cX3_carryOut 32 = .ok (.invokevirtual 63, 3) := by decide +kernel
theorem dX3_carryOut_35 : decode cX3_carryOut 35 = .ok (.aload_n 0, 1) := by decide +kernel
theorem dX3_carryOut_36 : decode cX3_carryOut 36 = .ok (.invokevirtual 143, 3) := by decide +kernel
theorem dX3_carryOut_39 : decode cX3_carryOut 39 = .ok (.istore_n 1, 1) := by decide +kernel
theorem dX3_carryOut_40 : decode cX3_carryOut 40 = .ok (.aload_n 0, 1) := by decide +kernel
theorem dX3_carryOut_41 : decode cX3_carryOut 41 = .ok (.iconst 0, 1) := by decide +kernel
theorem dX3_carryOut_42 : decode cX3_carryOut 42 = .ok (.putfield 41, 3) := by decide +kernel
theorem dX3_carryOut_45 : decode cX3_carryOut 45 = .ok (.iload_n 1, 1) := by decide +kernel
theorem dX3_carryOut_46 : decode cX3_carryOut 46 = .ok (.ireturn, 1) := by decide +kernel
set_option maxRecDepth 20000 in
theorem ggX3_undo_X3_stateIn : GoodIn wsX3_undo wsX3_stateIn := goodIn_r _ [8] (by decide +kernel) (by decide +kernel)
set_option maxRecDepth 20000 in
theorem gX3_undo_X3_stateIn : GoodIn wsX3_undo (va_wsS RX3 146 yX3_stateIn wsX3_stateIn) := goodIn_app (goodIn_of _ (by decide +kernel)) ggX3_undo_X3_stateIn
set_option maxRecDepth 20000 in
theorem ggX3_undo_X3_restore : GoodIn wsX3_undo wsX3_restore := goodIn_r _ [12, 13, 14, 15, 16, 17, 18, 19, 20, 21, 22, 23, 24, 25, 26, 27, 28, 29, 30, 31, 32, 33, 34, 35, 36, 37, 38, 39, 40, 41, 42, 43, 44, 45, 46, 47, 48, 49, 50, 7, 51, 52, 53, 54, 55, 56, 57, 58, 59, 60, 61, 62, 63, 64, 65, 66, 67, 68, 69, 70, 71, 72, 73, 74, 75, 76, 77, 78, 79, 80, 81, 82, 83, 84, 85, 86, 87, 88, 89, 90, 91, 92, 93, 94, 95, 96, 97, 98] (by decide +kernel) (by decide +kernel)
set_option maxRecDepth 20000 in
theorem gX3_undo_X3_restore : GoodIn wsX3_undo (wsV RX3 152 RX3 yX3_restore wsX3_restore) := goodIn_app (goodIn_of _ (by decide +kernel)) ggX3_undo_X3_restore
theorem dX3_undo_0 : decode cX3_undo 0 = .ok (.aload_n 0, 1) := by decide +kernel
theorem dX3_undo_1 : decode cX3_undo 1 = .ok (.getfield 26, 3) := by decide +kernel
theorem dX3_undo_4 : decode cX3_undo 4 = .ok (.aload_n 0, 1) := by decide +kernel
theorem dX3_undo_5 : decode cX3_undo 5 = .ok (.getfield 30, 3) := by decide +kernel
theorem dX3_undo_8 : decode cX3_undo 8 = .ok (.iconst 1, 1) := by decide +kernel
theorem dX3_undo_9 : decode cX3_undo 9 = .ok (.isub, 1) := by decide +kernel
theorem dX3_undo_10 : decode cX3_undo 10 = .ok (.invokestatic 146, 3) := by decide +kernel
theorem dX3_undo_13 : decode cX3_undo 13 = .ok (.astore_n 1, 1) := by decide +kernel
theorem dX3_undo_14 : decode cX3_undo 14 = .ok (.aload_n 1, 1) := by decide +kernel
theorem dX3_undo_15 : decode cX3_undo 15 = .ok (.ifnonnull 13, 3) := by decide +kernel
theorem dX3_undo_18 : decode cX3_undo 18 = .ok (.new 129, 3) := by decide +kernel
theorem dX3_undo_21 : decode cX3_undo 21 = .ok (.dup, 1) := by decide +kernel
theorem dX3_undo_22 : decode cX3_undo 22 = .ok (.ldc 150, 2) := by decide +kernel
theorem dX3_undo_24 : decode cX3_undo 24 = .ok (.invokespecial 133, 3) := by decide +kernel
theorem dX3_undo_27 : decode cX3_undo 27 = .ok (.athrow, 1) := by decide +kernel
theorem dX3_undo_28 : decode cX3_undo 28 = .ok (.aload_n 0, 1) := by decide +kernel
theorem dX3_undo_29 : decode cX3_undo 29 = .ok (.dup, 1) := by decide +kernel
theorem dX3_undo_30 : decode cX3_undo 30 = .ok (.getfield 30, 3) := by decide +kernel
theorem dX3_undo_33 : decode cX3_undo 33 = .ok (.iconst 1, 1) := by decide +kernel
theorem dX3_undo_34 : decode cX3_undo 34 = .ok (.isub, 1) := by decide +kernel
theorem dX3_undo_35 : decode cX3_undo 35 = .ok (.putfield 30, 3) := by decide +kernel
theorem dX3_undo_38 : decode cX3_undo 38 = .ok (.aload_n 0, 1) := by decide +kernel
theorem dX3_undo_39 : decode cX3_undo 39 = .ok (.aload_n 1, 1) := by decide +kernel
theorem dX3_undo_40 : decode cX3_undo 40 = .ok (.invokevirtual 152, 3) := by decide +kernel
theorem dX3_undo_43 : decode cX3_undo 43 = .ok (.aload_n 0, 1) := by decide +kernel
theorem dX3_undo_44 : decode cX3_undo 44 = .ok (.getfield 30, 3) := by decide +kernel
theorem dX3_undo_47 : decode cX3_undo 47 = .ok (.ireturn, 1) := by decide +kernel
theorem dX3_savedStates_0 : decode cX3_savedStates 0 = .ok (.aload_n 0, 1) := by decide +kernel
theorem dX3_savedStates_1 : decode cX3_savedStates 1 = .ok (.getfield 30, 3) := by decide +kernel
theorem dX3_savedStates_4 : decode cX3_savedStates 4 = .ok (.ireturn, 1) := by decide +kernel
set_option maxRecDepth 20000 in
theorem ggX3_keep_X3_needSlot : GoodIn wsX3_keep wsX3_needSlot := goodIn_ca (goodIn_r _ [6, 7, 8] (by decide +kernel) (by decide +kernel)) (goodIn_sub (fun _ h => List.mem_cons_of_mem _ (List.mem_append_right _ h)) (by decide +kernel))
set_option maxRecDepth 20000 in
theorem gX3_keep_X3_needSlot : GoodIn wsX3_keep (va_wsS RX3 156 yX3_needSlot wsX3_needSlot) := goodIn_app (goodIn_of _ (by decide +kernel)) ggX3_keep_X3_needSlot
set_option maxRecDepth 20000 in
theorem ggX3_keep_X3_storeIn : GoodIn wsX3_keep wsX3_storeIn := goodIn_r _ [12, 13, 14, 15, 16, 17, 18, 19, 20, 21, 22, 23, 24, 25, 26, 27, 28, 29, 30, 31, 32, 33, 34, 35, 36, 37, 38, 39, 40, 41, 42, 43, 59, 60, 61, 62, 63, 64, 65, 66, 50, 51, 52, 53, 54, 55, 56, 57, 58] (by decide +kernel) (by decide +kernel)
set_option maxRecDepth 20000 in
theorem gX3_keep_X3_storeIn : GoodIn wsX3_keep (wsV RX3 159 RX3 yX3_storeIn wsX3_storeIn) := goodIn_app (goodIn_of _ (by decide +kernel)) ggX3_keep_X3_storeIn
set_option maxRecDepth 20000 in
theorem ggX3_keep_X2_count : GoodIn wsX3_keep wsX2_count := goodIn_r _ [48, 49, 67, 68, 69, 70, 71, 72, 73] (by decide +kernel) (by decide +kernel)
set_option maxRecDepth 20000 in
theorem gX3_keep_X2_count : GoodIn wsX3_keep (wsV RX3 163 RX2 yX2_count wsX2_count) := goodIn_app (goodIn_of _ (by decide +kernel)) ggX3_keep_X2_count
theorem dX3_keep_0 : decode cX3_keep 0 = .ok (.iload_n 1, 1) := by decide +kernel
theorem dX3_keep_1 : decode cX3_keep 1 = .ok (.invokestatic 156, 3) := by decide +kernel
theorem dX3_keep_4 : decode cX3_keep 4 = .ok (.aload_n 0, 1) := by decide +kernel
theorem dX3_keep_5 : decode cX3_keep 5 = .ok (.aload_n 0, 1) := by decide +kernel
theorem dX3_keep_6 : decode cX3_keep 6 = .ok (.getfield 34, 3) := by decide +kernel
theorem dX3_keep_9 : decode cX3_keep 9 = .ok (.iload_n 1, 1) := by decide +kernel
theorem dX3_keep_10 : decode cX3_keep 10 = .ok (.invokevirtual 159, 3) := by decide +kernel
theorem dX3_keep_13 : decode cX3_keep 13 = .ok (.aload_n 0, 1) := by decide +kernel
theorem dX3_keep_14 : decode cX3_keep 14 = .ok (.getfield 12, 3) := by decide +kernel
theorem dX3_keep_17 : decode cX3_keep 17 = .ok (.invokevirtual 163, 3) := by decide +kernel
theorem dX3_keep_20 : decode cX3_keep 20 = .ok (.ireturn, 1) := by decide +kernel
set_option maxRecDepth 20000 in
theorem ggX3_goBack_X3_needSlot : GoodIn wsX3_goBack wsX3_needSlot := goodIn_ca (goodIn_r _ [8, 9, 10] (by decide +kernel) (by decide +kernel)) (goodIn_sub (fun _ h => List.mem_cons_of_mem _ (List.mem_append_right _ h)) (by decide +kernel))
set_option maxRecDepth 20000 in
theorem gX3_goBack_X3_needSlot : GoodIn wsX3_goBack (va_wsS RX3 156 yX3_needSlot wsX3_needSlot) := goodIn_app (goodIn_of _ (by decide +kernel)) ggX3_goBack_X3_needSlot
set_option maxRecDepth 20000 in
theorem ggX3_goBack_X3_stateIn : GoodIn wsX3_goBack wsX3_stateIn := goodIn_r _ [13] (by decide +kernel) (by decide +kernel)
set_option maxRecDepth 20000 in
theorem gX3_goBack_X3_stateIn : GoodIn wsX3_goBack (va_wsS RX3 146 yX3_stateIn wsX3_stateIn) := goodIn_app (goodIn_of _ (by decide +kernel)) ggX3_goBack_X3_stateIn
set_option maxRecDepth 20000 in
theorem ggX3_goBack_X3_saveState : GoodIn wsX3_goBack wsX3_saveState := goodIn_r _ [17, 18, 19, 20, 21, 22, 7, 23, 24, 25, 26, 27, 28, 29, 30, 31, 32, 33, 34, 35, 36, 37, 38, 39, 40, 41, 42, 43, 44, 45, 46, 47, 48, 49, 50, 51, 52, 53, 54, 55, 56, 57, 58, 107, 108, 109, 110, 111, 112, 113, 114, 115, 116, 117, 118, 119, 120, 121, 122, 123] (by decide +kernel) (by decide +kernel)
set_option maxRecDepth 20000 in
theorem gX3_goBack_X3_saveState : GoodIn wsX3_goBack (wsV RX3 63 RX3 yX3_saveState wsX3_saveState) := goodIn_app (goodIn_of _ (by decide +kernel)) ggX3_goBack_X3_saveState
set_option maxRecDepth 20000 in
theorem ggX3_goBack_X3_restore : GoodIn wsX3_goBack wsX3_restore := goodIn_r _ [62, 31, 4, 51, 52, 53, 30, 54, 39, 55, 56, 57, 58, 40, 41, 42, 43, 44, 45, 46, 63, 64, 65, 66, 67, 68, 69, 70, 48, 49, 50, 71, 72, 73, 74, 75, 76, 77, 78, 7, 79, 80, 81, 82, 83, 84, 85, 86, 87, 88, 89, 90, 91, 92, 93, 94, 95, 96, 97, 98, 99, 100, 101, 102, 107, 108, 109, 110, 111, 112, 113, 114, 115, 116, 117, 118, 119, 120, 121, 122, 123, 124, 125, 126, 127, 128, 129, 130] (by decide +kernel) (by decide +kernel)
set_option maxRecDepth 20000 in
theorem gX3_goBack_X3_restore : GoodIn wsX3_goBack (wsV RX3 152 RX3 yX3_restore wsX3_restore) := goodIn_app (goodIn_of _ (by decide +kernel)) ggX3_goBack_X3_restore
set_option maxRecDepth 20000 in
theorem ggX3_goBack_X2_count : GoodIn wsX3_goBack wsX2_count := goodIn_r _ [106, 69, 124, 125, 126, 127, 128, 129, 130] (by decide +kernel) (by decide +kernel)
set_option maxRecDepth 20000 in
theorem gX3_goBack_X2_count : GoodIn wsX3_goBack (wsV RX3 163 RX2 yX2_count wsX2_count) := goodIn_app (goodIn_of _ (by decide +kernel)) ggX3_goBack_X2_count
theorem dX3_goBack_0 : decode cX3_goBack 0 = .ok (.iload_n 1, 1) := by decide +kernel
theorem dX3_goBack_1 : decode cX3_goBack 1 = .ok (.invokestatic 156, 3) := by decide +kernel
theorem dX3_goBack_4 : decode cX3_goBack 4 = .ok (.aload_n 0, 1) := by decide +kernel
theorem dX3_goBack_5 : decode cX3_goBack 5 = .ok (.getfield 34, 3) := by decide +kernel
theorem dX3_goBack_8 : decode cX3_goBack 8 = .ok (.iload_n 1, 1) := by decide +kernel
theorem dX3_goBack_9 : decode cX3_goBack 9 = .ok (.invokestatic 146, 3) := by decide +kernel
theorem dX3_goBack_12 : decode cX3_goBack 12 = .ok (.astore_n 2, 1) := by decide +kernel
theorem dX3_goBack_13 : decode cX3_goBack 13 = .ok (.aload_n 2, 1) := by decide +kernel
theorem dX3_goBack_14 : decode cX3_goBack 14 = .ok (.ifnonnull 13, 3) := by decide +kernel
theorem dX3_goBack_17 : decode cX3_goBack 17 = .ok (.new 129, 3) := by decide +kernel
theorem dX3_goBack_20 : decode cX3_goBack 20 = .ok (.dup, 1) := by decide +kernel
theorem dX3_goBack_21 : decode cX3_goBack 21 = .ok (.ldc 166, 2) := by decide +kernel
theorem dX3_goBack_23 : decode cX3_goBack 23 = .ok (.invokespecial 133, 3) := by decide +kernel
theorem dX3_goBack_26 : decode cX3_goBack 26 = .ok (.athrow, 1) := by decide +kernel
theorem dX3_goBack_27 : decode cX3_goBack 27 = .ok (.aload_n 0, 1) := by decide +kernel
theorem dX3_goBack_28 : decode cX3_goBack 28 = .ok (.invokevirtual 63, 3) := by decide +kernel
theorem dX3_goBack_31 : decode cX3_goBack 31 = .ok (.aload_n 0, 1) := by decide +kernel
theorem dX3_goBack_32 : decode cX3_goBack 32 = .ok (.aload_n 2, 1) := by decide +kernel
theorem dX3_goBack_33 : decode cX3_goBack 33 = .ok (.invokevirtual 152, 3) := by decide +kernel
theorem dX3_goBack_36 : decode cX3_goBack 36 = .ok (.aload_n 0, 1) := by decide +kernel
theorem dX3_goBack_37 : decode cX3_goBack 37 = .ok (.getfield 12, 3) := by decide +kernel
theorem dX3_goBack_40 : decode cX3_goBack 40 = .ok (.invokevirtual 163, 3) := by decide +kernel
theorem dX3_goBack_43 : decode cX3_goBack 43 = .ok (.ireturn, 1) := by decide +kernel
set_option maxRecDepth 20000 in
theorem ggX3_ownerAt_X3_needCell : GoodIn wsX3_ownerAt wsX3_needCell := goodIn_ca (goodIn_r _ [5, 6, 7, 8, 9, 4, 10] (by decide +kernel) (by decide +kernel)) (goodIn_sub (fun _ h => List.mem_cons_of_mem _ (List.mem_append_right _ h)) (by decide +kernel))
set_option maxRecDepth 20000 in
theorem gX3_ownerAt_X3_needCell : GoodIn wsX3_ownerAt (va_wsS RX3 51 yX3_needCell wsX3_needCell) := goodIn_app (goodIn_of _ (by decide +kernel)) ggX3_ownerAt_X3_needCell
set_option maxRecDepth 20000 in
theorem ggX3_ownerAt_X1_ownerOf : GoodIn wsX3_ownerAt wsX1_ownerOf := goodIn_r _ [15, 16, 9, 4, 10, 26, 27, 28, 29, 30, 31, 32, 33] (by decide +kernel) (by decide +kernel)
set_option maxRecDepth 20000 in
theorem gX3_ownerAt_X1_ownerOf : GoodIn wsX3_ownerAt (wsV RX3 168 RX1 yX1_ownerOf wsX1_ownerOf) := goodIn_app (goodIn_of _ (by decide +kernel)) ggX3_ownerAt_X1_ownerOf
theorem dX3_ownerAt_0 : decode cX3_ownerAt 0 = .ok (.iload_n 1, 1) := by decide +kernel
theorem dX3_ownerAt_1 : decode cX3_ownerAt 1 = .ok (.iload_n 2, 1) := by decide +kernel
theorem dX3_ownerAt_2 : decode cX3_ownerAt 2 = .ok (.invokestatic 51, 3) := by decide +kernel
theorem dX3_ownerAt_5 : decode cX3_ownerAt 5 = .ok (.aload_n 0, 1) := by decide +kernel
theorem dX3_ownerAt_6 : decode cX3_ownerAt 6 = .ok (.getfield 20, 3) := by decide +kernel
theorem dX3_ownerAt_9 : decode cX3_ownerAt 9 = .ok (.iload_n 1, 1) := by decide +kernel
theorem dX3_ownerAt_10 : decode cX3_ownerAt 10 = .ok (.iload_n 2, 1) := by decide +kernel
theorem dX3_ownerAt_11 : decode cX3_ownerAt 11 = .ok (.invokevirtual 168, 3) := by decide +kernel
theorem dX3_ownerAt_14 : decode cX3_ownerAt 14 = .ok (.ireturn, 1) := by decide +kernel
set_option maxRecDepth 20000 in
theorem ggX3_heightAt_X3_needCell : GoodIn wsX3_heightAt wsX3_needCell := goodIn_ca (goodIn_r _ [5, 6, 7, 8, 9, 4, 10] (by decide +kernel) (by decide +kernel)) (goodIn_sub (fun _ h => List.mem_cons_of_mem _ (List.mem_append_right _ h)) (by decide +kernel))
set_option maxRecDepth 20000 in
theorem gX3_heightAt_X3_needCell : GoodIn wsX3_heightAt (va_wsS RX3 51 yX3_needCell wsX3_needCell) := goodIn_app (goodIn_of _ (by decide +kernel)) ggX3_heightAt_X3_needCell
set_option maxRecDepth 20000 in
theorem ggX3_heightAt_X1_heightOf : GoodIn wsX3_heightAt wsX1_heightOf := goodIn_r _ [15, 16, 9, 4, 10, 26, 27, 28, 29, 30, 31, 32, 33] (by decide +kernel) (by decide +kernel)
set_option maxRecDepth 20000 in
theorem gX3_heightAt_X1_heightOf : GoodIn wsX3_heightAt (wsV RX3 171 RX1 yX1_heightOf wsX1_heightOf) := goodIn_app (goodIn_of _ (by decide +kernel)) ggX3_heightAt_X1_heightOf
theorem dX3_heightAt_0 : decode cX3_heightAt 0 = .ok (.iload_n 1, 1) := by decide +kernel
theorem dX3_heightAt_1 : decode cX3_heightAt 1 = .ok (.iload_n 2, 1) := by decide +kernel
theorem dX3_heightAt_2 : decode cX3_heightAt 2 = .ok (.invokestatic 51, 3) := by decide +kernel
theorem dX3_heightAt_5 : decode cX3_heightAt 5 = .ok (.aload_n 0, 1) := by decide +kernel
theorem dX3_heightAt_6 : decode cX3_heightAt 6 = .ok (.getfield 20, 3) := by decide +kernel
theorem dX3_heightAt_9 : decode cX3_heightAt 9 = .ok (.iload_n 1, 1) := by decide +kernel
theorem dX3_heightAt_10 : decode cX3_heightAt 10 = .ok (.iload_n 2, 1) := by decide +kernel
theorem dX3_heightAt_11 : decode cX3_heightAt 11 = .ok (.invokevirtual 171, 3) := by decide +kernel
theorem dX3_heightAt_14 : decode cX3_heightAt 14 = .ok (.ireturn, 1) := by decide +kernel
set_option maxRecDepth 20000 in
theorem ggX3_plotSizeAt_X3_needCell : GoodIn wsX3_plotSizeAt wsX3_needCell := goodIn_ca (goodIn_r _ [5, 6, 7, 8, 9, 4, 10] (by decide +kernel) (by decide +kernel)) (goodIn_sub (fun _ h => List.mem_cons_of_mem _ (List.mem_append_right _ h)) (by decide +kernel))
set_option maxRecDepth 20000 in
theorem gX3_plotSizeAt_X3_needCell : GoodIn wsX3_plotSizeAt (va_wsS RX3 51 yX3_needCell wsX3_needCell) := goodIn_app (goodIn_of _ (by decide +kernel)) ggX3_plotSizeAt_X3_needCell
set_option maxRecDepth 20000 in
theorem ggX3_plotSizeAt_X2_rankAt : GoodIn wsX3_plotSizeAt wsX2_rankAt := goodIn_r _ [15, 16, 9, 4, 10, 36, 37, 38, 39, 40, 41, 42] (by decide +kernel) (by decide +kernel)
set_option maxRecDepth 20000 in
theorem gX3_plotSizeAt_X2_rankAt : GoodIn wsX3_plotSizeAt (wsV RX3 93 RX2 yX2_rankAt wsX2_rankAt) := goodIn_app (goodIn_of _ (by decide +kernel)) ggX3_plotSizeAt_X2_rankAt
set_option maxRecDepth 20000 in
theorem ggX3_plotSizeAt_X2_sizeOf : GoodIn wsX3_plotSizeAt wsX2_sizeOf := goodIn_r _ [20, 21, 22, 23, 24, 14, 25, 26, 36, 37, 38, 39, 40, 41, 42] (by decide +kernel) (by decide +kernel)
set_option maxRecDepth 20000 in
theorem gX3_plotSizeAt_X2_sizeOf : GoodIn wsX3_plotSizeAt (wsV RX3 103 RX2 yX2_sizeOf wsX2_sizeOf) := goodIn_app (goodIn_of _ (by decide +kernel)) ggX3_plotSizeAt_X2_sizeOf
theorem dX3_plotSizeAt_0 : decode cX3_plotSizeAt 0 = .ok (.iload_n 1, 1) := by decide +kernel
theorem dX3_plotSizeAt_1 : decode cX3_plotSizeAt 1 = .ok (.iload_n 2, 1) := by decide +kernel
theorem dX3_plotSizeAt_2 : decode cX3_plotSizeAt 2 = .ok (.invokestatic 51, 3) := by decide +kernel
theorem dX3_plotSizeAt_5 : decode cX3_plotSizeAt 5 = .ok (.aload_n 0, 1) := by decide +kernel
theorem dX3_plotSizeAt_6 : decode cX3_plotSizeAt 6 = .ok (.getfield 12, 3) := by decide +kernel
theorem dX3_plotSizeAt_9 : decode cX3_plotSizeAt 9 = .ok (.aload_n 0, 1) := by decide +kernel
theorem dX3_plotSizeAt_10 : decode cX3_plotSizeAt 10 = .ok (.getfield 12, 3) := by decide +kernel
theorem dX3_plotSizeAt_13 : decode cX3_plotSizeAt 13 = .ok (.iload_n 1, 1) := by decide +kernel
theorem dX3_plotSizeAt_14 : decode cX3_plotSizeAt 14 = .ok (.iload_n 2, 1) := by decide +kernel
theorem dX3_plotSizeAt_15 : decode cX3_plotSizeAt 15 = .ok (.invokevirtual 93, 3) := by decide +kernel
theorem dX3_plotSizeAt_18 : decode cX3_plotSizeAt 18 = .ok (.invokevirtual 103, 3) := by decide +kernel
theorem dX3_plotSizeAt_21 : decode cX3_plotSizeAt 21 = .ok (.ireturn, 1) := by decide +kernel
set_option maxRecDepth 20000 in
theorem ggX3_plotRankAt_X3_needCell : GoodIn wsX3_plotRankAt wsX3_needCell := goodIn_ca (goodIn_r _ [5, 6, 7, 8, 9, 4, 10] (by decide +kernel) (by decide +kernel)) (goodIn_sub (fun _ h => List.mem_cons_of_mem _ (List.mem_append_right _ h)) (by decide +kernel))
set_option maxRecDepth 20000 in
theorem gX3_plotRankAt_X3_needCell : GoodIn wsX3_plotRankAt (va_wsS RX3 51 yX3_needCell wsX3_needCell) := goodIn_app (goodIn_of _ (by decide +kernel)) ggX3_plotRankAt_X3_needCell
set_option maxRecDepth 20000 in
theorem ggX3_plotRankAt_X2_rankAt : GoodIn wsX3_plotRankAt wsX2_rankAt := goodIn_r _ [15, 16, 9, 4, 10, 26, 27, 28, 29, 30, 31, 32] (by decide +kernel) (by decide +kernel)
set_option maxRecDepth 20000 in
theorem gX3_plotRankAt_X2_rankAt : GoodIn wsX3_plotRankAt (wsV RX3 93 RX2 yX2_rankAt wsX2_rankAt) := goodIn_app (goodIn_of _ (by decide +kernel)) ggX3_plotRankAt_X2_rankAt
theorem dX3_plotRankAt_0 : decode cX3_plotRankAt 0 = .ok (.iload_n 1, 1) := by decide +kernel
theorem dX3_plotRankAt_1 : decode cX3_plotRankAt 1 = .ok (.iload_n 2, 1) := by decide +kernel
theorem dX3_plotRankAt_2 : decode cX3_plotRankAt 2 = .ok (.invokestatic 51, 3) := by decide +kernel
theorem dX3_plotRankAt_5 : decode cX3_plotRankAt 5 = .ok (.aload_n 0, 1) := by decide +kernel
theorem dX3_plotRankAt_6 : decode cX3_plotRankAt 6 = .ok (.getfield 12, 3) := by decide +kernel
theorem dX3_plotRankAt_9 : decode cX3_plotRankAt 9 = .ok (.iload_n 1, 1) := by decide +kernel
theorem dX3_plotRankAt_10 : decode cX3_plotRankAt 10 = .ok (.iload_n 2, 1) := by decide +kernel
theorem dX3_plotRankAt_11 : decode cX3_plotRankAt 11 = .ok (.invokevirtual 93, 3) := by decide +kernel
theorem dX3_plotRankAt_14 : decode cX3_plotRankAt 14 = .ok (.ireturn, 1) := by decide +kernel
set_option maxRecDepth 20000 in
theorem ggX3_plotPriceAt_X3_needCell : GoodIn wsX3_plotPriceAt wsX3_needCell := goodIn_ca (goodIn_r _ [6, 7, 8, 9, 10, 5, 11] (by decide +kernel) (by decide +kernel)) (goodIn_sub (fun _ h => List.mem_cons_of_mem _ (List.mem_append_right _ h)) (by decide +kernel))
set_option maxRecDepth 20000 in
theorem gX3_plotPriceAt_X3_needCell : GoodIn wsX3_plotPriceAt (va_wsS RX3 51 yX3_needCell wsX3_needCell) := goodIn_app (goodIn_of _ (by decide +kernel)) ggX3_plotPriceAt_X3_needCell
set_option maxRecDepth 20000 in
theorem ggX3_plotPriceAt_X2_rankAt : GoodIn wsX3_plotPriceAt wsX2_rankAt := goodIn_r _ [16, 17, 10, 5, 11, 43, 44, 45, 46, 47, 48, 49] (by decide +kernel) (by decide +kernel)
set_option maxRecDepth 20000 in
theorem gX3_plotPriceAt_X2_rankAt : GoodIn wsX3_plotPriceAt (wsV RX3 93 RX2 yX2_rankAt wsX2_rankAt) := goodIn_app (goodIn_of _ (by decide +kernel)) ggX3_plotPriceAt_X2_rankAt
set_option maxRecDepth 20000 in
theorem ggX3_plotPriceAt_X2_sizeOf : GoodIn wsX3_plotPriceAt wsX2_sizeOf := goodIn_r _ [21, 22, 23, 24, 25, 15, 26, 27, 43, 44, 45, 46, 47, 48, 49] (by decide +kernel) (by decide +kernel)
set_option maxRecDepth 20000 in
theorem gX3_plotPriceAt_X2_sizeOf : GoodIn wsX3_plotPriceAt (wsV RX3 103 RX2 yX2_sizeOf wsX2_sizeOf) := goodIn_app (goodIn_of _ (by decide +kernel)) ggX3_plotPriceAt_X2_sizeOf
set_option maxRecDepth 20000 in
theorem ggX3_plotPriceAt_X1_costOf : GoodIn wsX3_plotPriceAt wsX1_costOf := goodIn_r _ [32, 33, 50, 51, 52, 53, 54, 55, 56, 57] (by decide +kernel) (by decide +kernel)
set_option maxRecDepth 20000 in
theorem gX3_plotPriceAt_X1_costOf : GoodIn wsX3_plotPriceAt (wsV RX3 174 RX1 yX1_costOf wsX1_costOf) := goodIn_app (goodIn_of _ (by decide +kernel)) ggX3_plotPriceAt_X1_costOf
theorem dX3_plotPriceAt_0 : decode cX3_plotPriceAt 0 = .ok (.iload_n 1, 1) := by decide +kernel
theorem dX3_plotPriceAt_1 : decode cX3_plotPriceAt 1 = .ok (.iload_n 2, 1) := by decide +kernel
theorem dX3_plotPriceAt_2 : decode cX3_plotPriceAt 2 = .ok (.invokestatic 51, 3) := by decide +kernel
theorem dX3_plotPriceAt_5 : decode cX3_plotPriceAt 5 = .ok (.aload_n 0, 1) := by decide +kernel
theorem dX3_plotPriceAt_6 : decode cX3_plotPriceAt 6 = .ok (.getfield 20, 3) := by decide +kernel
theorem dX3_plotPriceAt_9 : decode cX3_plotPriceAt 9 = .ok (.aload_n 0, 1) := by decide +kernel
theorem dX3_plotPriceAt_10 : decode cX3_plotPriceAt 10 = .ok (.getfield 12, 3) := by decide +kernel
theorem dX3_plotPriceAt_13 : decode cX3_plotPriceAt 13 = .ok (.aload_n 0, 1) := by decide +kernel
theorem dX3_plotPriceAt_14 : decode cX3_plotPriceAt 14 = .ok (.getfield 12, 3) := by decide +kernel
theorem dX3_plotPriceAt_17 : decode cX3_plotPriceAt 17 = .ok (.iload_n 1, 1) := by decide +kernel
theorem dX3_plotPriceAt_18 : decode cX3_plotPriceAt 18 = .ok (.iload_n 2, 1) := by decide +kernel
theorem dX3_plotPriceAt_19 : decode cX3_plotPriceAt 19 = .ok (.invokevirtual 93, 3) := by decide +kernel
theorem dX3_plotPriceAt_22 : decode cX3_plotPriceAt 22 = .ok (.invokevirtual 103, 3) := by decide +kernel
theorem dX3_plotPriceAt_25 : decode cX3_plotPriceAt 25 = .ok (.invokevirtual 174, 3) := by decide +kernel
theorem dX3_plotPriceAt_28 : decode cX3_plotPriceAt 28 = .ok (.ireturn, 1) := by decide +kernel
set_option maxRecDepth 20000 in
theorem ggX3_plots_X2_count : GoodIn wsX3_plots wsX2_count := goodIn_r _ [6, 7, 17, 18, 19, 20, 21, 22, 23] (by decide +kernel) (by decide +kernel)
set_option maxRecDepth 20000 in
theorem gX3_plots_X2_count : GoodIn wsX3_plots (wsV RX3 163 RX2 yX2_count wsX2_count) := goodIn_app (goodIn_of _ (by decide +kernel)) ggX3_plots_X2_count
theorem dX3_plots_0 : decode cX3_plots 0 = .ok (.aload_n 0, 1) := by decide +kernel
theorem dX3_plots_1 : decode cX3_plots 1 = .ok (.getfield 12, 3) := by decide +kernel
theorem dX3_plots_4 : decode cX3_plots 4 = .ok (.invokevirtual 163, 3) := by decide +kernel
theorem dX3_plots_7 : decode cX3_plots 7 = .ok (.ireturn, 1) := by decide +kernel
set_option maxRecDepth 20000 in
theorem ggX3_plotOwner_X3_needPlot : GoodIn wsX3_plotOwner wsX3_needPlot := goodIn_ca (goodIn_r _ [6, 7, 8, 1, 9, 10, 11, 12, 13, 14, 21, 22, 23, 24, 25, 26, 27, 28, 29, 30, 31, 32, 33, 34, 35, 36] (by decide +kernel) (by decide +kernel)) (goodIn_sub (fun _ h => List.mem_cons_of_mem _ (List.mem_append_right _ h)) (by decide +kernel))
set_option maxRecDepth 20000 in
theorem gX3_plotOwner_X3_needPlot : GoodIn wsX3_plotOwner (wsV RX3 177 RX3 yX3_needPlot wsX3_needPlot) := goodIn_app (goodIn_of _ (by decide +kernel)) ggX3_plotOwner_X3_needPlot
set_option maxRecDepth 20000 in
theorem ggX3_plotOwner_X2_ownerOf : GoodIn wsX3_plotOwner wsX2_ownerOf := goodIn_r _ [18, 19, 20, 10, 11, 12, 13, 14, 30, 31, 32, 33, 34, 35, 36] (by decide +kernel) (by decide +kernel)
set_option maxRecDepth 20000 in
theorem gX3_plotOwner_X2_ownerOf : GoodIn wsX3_plotOwner (wsV RX3 180 RX2 yX2_ownerOf wsX2_ownerOf) := goodIn_app (goodIn_of _ (by decide +kernel)) ggX3_plotOwner_X2_ownerOf
theorem dX3_plotOwner_0 : decode cX3_plotOwner 0 = .ok (.aload_n 0, 1) := by decide +kernel
theorem dX3_plotOwner_1 : decode cX3_plotOwner 1 = .ok (.iload_n 1, 1) := by decide +kernel
theorem dX3_plotOwner_2 : decode cX3_plotOwner 2 = .ok (.invokevirtual 177, 3) := by decide +kernel
theorem dX3_plotOwner_5 : decode cX3_plotOwner 5 = .ok (.aload_n 0, 1) := by decide +kernel
theorem dX3_plotOwner_6 : decode cX3_plotOwner 6 = .ok (.getfield 12, 3) := by decide +kernel
theorem dX3_plotOwner_9 : decode cX3_plotOwner 9 = .ok (.iload_n 1, 1) := by decide +kernel
theorem dX3_plotOwner_10 : decode cX3_plotOwner 10 = .ok (.invokevirtual 180, 3) := by decide +kernel
theorem dX3_plotOwner_13 : decode cX3_plotOwner 13 = .ok (.ireturn, 1) := by decide +kernel
set_option maxRecDepth 20000 in
theorem ggX3_plotX_X3_needPlot : GoodIn wsX3_plotX wsX3_needPlot := goodIn_ca (goodIn_r _ [6, 7, 8, 1, 9, 10, 11, 12, 13, 14, 21, 22, 23, 24, 25, 26, 27, 28, 29, 30, 31, 32, 33, 34, 35, 36] (by decide +kernel) (by decide +kernel)) (goodIn_sub (fun _ h => List.mem_cons_of_mem _ (List.mem_append_right _ h)) (by decide +kernel))
set_option maxRecDepth 20000 in
theorem gX3_plotX_X3_needPlot : GoodIn wsX3_plotX (wsV RX3 177 RX3 yX3_needPlot wsX3_needPlot) := goodIn_app (goodIn_of _ (by decide +kernel)) ggX3_plotX_X3_needPlot
set_option maxRecDepth 20000 in
theorem ggX3_plotX_X2_cornerX : GoodIn wsX3_plotX wsX2_cornerX := goodIn_r _ [18, 19, 20, 10, 11, 12, 13, 14, 30, 31, 32, 33, 34, 35, 36] (by decide +kernel) (by decide +kernel)
set_option maxRecDepth 20000 in
theorem gX3_plotX_X2_cornerX : GoodIn wsX3_plotX (wsV RX3 97 RX2 yX2_cornerX wsX2_cornerX) := goodIn_app (goodIn_of _ (by decide +kernel)) ggX3_plotX_X2_cornerX
theorem dX3_plotX_0 : decode cX3_plotX 0 = .ok (.aload_n 0, 1) := by decide +kernel
theorem dX3_plotX_1 : decode cX3_plotX 1 = .ok (.iload_n 1, 1) := by decide +kernel
theorem dX3_plotX_2 : decode cX3_plotX 2 = .ok (.invokevirtual 177, 3) := by decide +kernel
theorem dX3_plotX_5 : decode cX3_plotX 5 = .ok (.aload_n 0, 1) := by decide +kernel
theorem dX3_plotX_6 : decode cX3_plotX 6 = .ok (.getfield 12, 3) := by decide +kernel
theorem dX3_plotX_9 : decode cX3_plotX 9 = .ok (.iload_n 1, 1) := by decide +kernel
theorem dX3_plotX_10 : decode cX3_plotX 10 = .ok (.invokevirtual 97, 3) := by decide +kernel
theorem dX3_plotX_13 : decode cX3_plotX 13 = .ok (.ireturn, 1) := by decide +kernel
set_option maxRecDepth 20000 in
theorem ggX3_plotY_X3_needPlot : GoodIn wsX3_plotY wsX3_needPlot := goodIn_ca (goodIn_r _ [6, 7, 8, 1, 9, 10, 11, 12, 13, 14, 21, 22, 23, 24, 25, 26, 27, 28, 29, 30, 31, 32, 33, 34, 35, 36] (by decide +kernel) (by decide +kernel)) (goodIn_sub (fun _ h => List.mem_cons_of_mem _ (List.mem_append_right _ h)) (by decide +kernel))
set_option maxRecDepth 20000 in
theorem gX3_plotY_X3_needPlot : GoodIn wsX3_plotY (wsV RX3 177 RX3 yX3_needPlot wsX3_needPlot) := goodIn_app (goodIn_of _ (by decide +kernel)) ggX3_plotY_X3_needPlot
set_option maxRecDepth 20000 in
theorem ggX3_plotY_X2_cornerY : GoodIn wsX3_plotY wsX2_cornerY := goodIn_r _ [18, 19, 20, 10, 11, 12, 13, 14, 30, 31, 32, 33, 34, 35, 36] (by decide +kernel) (by decide +kernel)
set_option maxRecDepth 20000 in
theorem gX3_plotY_X2_cornerY : GoodIn wsX3_plotY (wsV RX3 100 RX2 yX2_cornerY wsX2_cornerY) := goodIn_app (goodIn_of _ (by decide +kernel)) ggX3_plotY_X2_cornerY
theorem dX3_plotY_0 : decode cX3_plotY 0 = .ok (.aload_n 0, 1) := by decide +kernel
theorem dX3_plotY_1 : decode cX3_plotY 1 = .ok (.iload_n 1, 1) := by decide +kernel
theorem dX3_plotY_2 : decode cX3_plotY 2 = .ok (.invokevirtual 177, 3) := by decide +kernel
theorem dX3_plotY_5 : decode cX3_plotY 5 = .ok (.aload_n 0, 1) := by decide +kernel
theorem dX3_plotY_6 : decode cX3_plotY 6 = .ok (.getfield 12, 3) := by decide +kernel
theorem dX3_plotY_9 : decode cX3_plotY 9 = .ok (.iload_n 1, 1) := by decide +kernel
theorem dX3_plotY_10 : decode cX3_plotY 10 = .ok (.invokevirtual 100, 3) := by decide +kernel
theorem dX3_plotY_13 : decode cX3_plotY 13 = .ok (.ireturn, 1) := by decide +kernel
set_option maxRecDepth 20000 in
theorem ggX3_plotSize_X3_needPlot : GoodIn wsX3_plotSize wsX3_needPlot := goodIn_ca (goodIn_r _ [6, 7, 8, 1, 9, 10, 11, 12, 13, 14, 21, 22, 23, 24, 25, 26, 27, 28, 29, 30, 31, 32, 33, 34, 35, 36] (by decide +kernel) (by decide +kernel)) (goodIn_sub (fun _ h => List.mem_cons_of_mem _ (List.mem_append_right _ h)) (by decide +kernel))
set_option maxRecDepth 20000 in
theorem gX3_plotSize_X3_needPlot : GoodIn wsX3_plotSize (wsV RX3 177 RX3 yX3_needPlot wsX3_needPlot) := goodIn_app (goodIn_of _ (by decide +kernel)) ggX3_plotSize_X3_needPlot
set_option maxRecDepth 20000 in
theorem ggX3_plotSize_X2_sizeOf : GoodIn wsX3_plotSize wsX2_sizeOf := goodIn_r _ [18, 19, 20, 10, 11, 12, 13, 14, 30, 31, 32, 33, 34, 35, 36] (by decide +kernel) (by decide +kernel)
set_option maxRecDepth 20000 in
theorem gX3_plotSize_X2_sizeOf : GoodIn wsX3_plotSize (wsV RX3 103 RX2 yX2_sizeOf wsX2_sizeOf) := goodIn_app (goodIn_of _ (by decide +kernel)) ggX3_plotSize_X2_sizeOf
theorem dX3_plotSize_0 : decode cX3_plotSize 0 = .ok (.aload_n 0, 1) := by decide +kernel
theorem dX3_plotSize_1 : decode cX3_plotSize 1 = .ok (.iload_n 1, 1) := by decide +kernel
theorem dX3_plotSize_2 : decode cX3_plotSize 2 = .ok (.invokevirtual 177, 3) := by decide +kernel
theorem dX3_plotSize_5 : decode cX3_plotSize 5 = .ok (.aload_n 0, 1) := by decide +kernel
theorem dX3_plotSize_6 : decode cX3_plotSize 6 = .ok (.getfield 12, 3) := by decide +kernel
theorem dX3_plotSize_9 : decode cX3_plotSize 9 = .ok (.iload_n 1, 1) := by decide +kernel
theorem dX3_plotSize_10 : decode cX3_plotSize 10 = .ok (.invokevirtual 103, 3) := by decide +kernel
theorem dX3_plotSize_13 : decode cX3_plotSize 13 = .ok (.ireturn, 1) := by decide +kernel
set_option maxRecDepth 20000 in
theorem ggX3_plotsOf_X3_needOwner : GoodIn wsX3_plotsOf wsX3_needOwner := goodIn_ca (goodIn_r _ [5, 6, 7, 8, 9, 4, 10] (by decide +kernel) (by decide +kernel)) (goodIn_sub (fun _ h => List.mem_cons_of_mem _ (List.mem_append_right _ h)) (by decide +kernel))
set_option maxRecDepth 20000 in
theorem gX3_plotsOf_X3_needOwner : GoodIn wsX3_plotsOf (va_wsS RX3 55 yX3_needOwner wsX3_needOwner) := goodIn_app (goodIn_of _ (by decide +kernel)) ggX3_plotsOf_X3_needOwner
set_option maxRecDepth 20000 in
theorem ggX3_plotsOf_X2_countOf : GoodIn wsX3_plotsOf wsX2_countOf := goodIn_r _ [15, 16, 17, 27, 28, 29, 30, 31, 32, 33] (by decide +kernel) (by decide +kernel)
set_option maxRecDepth 20000 in
theorem gX3_plotsOf_X2_countOf : GoodIn wsX3_plotsOf (wsV RX3 182 RX2 yX2_countOf wsX2_countOf) := goodIn_app (goodIn_of _ (by decide +kernel)) ggX3_plotsOf_X2_countOf
theorem dX3_plotsOf_0 : decode cX3_plotsOf 0 = .ok (.iload_n 1, 1) := by decide +kernel
theorem dX3_plotsOf_1 : decode cX3_plotsOf 1 = .ok (.invokestatic 55, 3) := by decide +kernel
theorem dX3_plotsOf_4 : decode cX3_plotsOf 4 = .ok (.aload_n 0, 1) := by decide +kernel
theorem dX3_plotsOf_5 : decode cX3_plotsOf 5 = .ok (.getfield 12, 3) := by decide +kernel
theorem dX3_plotsOf_8 : decode cX3_plotsOf 8 = .ok (.iload_n 1, 1) := by decide +kernel
theorem dX3_plotsOf_9 : decode cX3_plotsOf 9 = .ok (.invokevirtual 182, 3) := by decide +kernel
theorem dX3_plotsOf_12 : decode cX3_plotsOf 12 = .ok (.ireturn, 1) := by decide +kernel
set_option maxRecDepth 20000 in
theorem ggX3_areaByPlots_X3_needOwner : GoodIn wsX3_areaByPlots wsX3_needOwner := goodIn_ca (goodIn_r _ [5, 6, 7, 8, 9, 4, 10] (by decide +kernel) (by decide +kernel)) (goodIn_sub (fun _ h => List.mem_cons_of_mem _ (List.mem_append_right _ h)) (by decide +kernel))
set_option maxRecDepth 20000 in
theorem gX3_areaByPlots_X3_needOwner : GoodIn wsX3_areaByPlots (va_wsS RX3 55 yX3_needOwner wsX3_needOwner) := goodIn_app (goodIn_of _ (by decide +kernel)) ggX3_areaByPlots_X3_needOwner
set_option maxRecDepth 20000 in
theorem ggX3_areaByPlots_X2_areaOf : GoodIn wsX3_areaByPlots wsX2_areaOf := goodIn_r _ [15, 16, 17, 18, 28, 29, 30, 31, 32, 33, 34] (by decide +kernel) (by decide +kernel)
set_option maxRecDepth 20000 in
theorem gX3_areaByPlots_X2_areaOf : GoodIn wsX3_areaByPlots (wsV RX3 185 RX2 yX2_areaOf wsX2_areaOf) := goodIn_app (goodIn_of _ (by decide +kernel)) ggX3_areaByPlots_X2_areaOf
theorem dX3_areaByPlots_0 : decode cX3_areaByPlots 0 = .ok (.iload_n 1, 1) := by decide +kernel
theorem dX3_areaByPlots_1 : decode cX3_areaByPlots 1 = .ok (.invokestatic 55, 3) := by decide +kernel
theorem dX3_areaByPlots_4 : decode cX3_areaByPlots 4 = .ok (.aload_n 0, 1) := by decide +kernel
theorem dX3_areaByPlots_5 : decode cX3_areaByPlots 5 = .ok (.getfield 12, 3) := by decide +kernel
theorem dX3_areaByPlots_8 : decode cX3_areaByPlots 8 = .ok (.iload_n 1, 1) := by decide +kernel
theorem dX3_areaByPlots_9 : decode cX3_areaByPlots 9 = .ok (.invokevirtual 185, 3) := by decide +kernel
theorem dX3_areaByPlots_12 : decode cX3_areaByPlots 12 = .ok (.ireturn, 1) := by decide +kernel
set_option maxRecDepth 20000 in
theorem ggX3_areaByCells_X3_needOwner : GoodIn wsX3_areaByCells wsX3_needOwner := goodIn_ca (goodIn_r _ [5, 6, 7, 8, 9, 4, 10] (by decide +kernel) (by decide +kernel)) (goodIn_sub (fun _ h => List.mem_cons_of_mem _ (List.mem_append_right _ h)) (by decide +kernel))
set_option maxRecDepth 20000 in
theorem gX3_areaByCells_X3_needOwner : GoodIn wsX3_areaByCells (va_wsS RX3 55 yX3_needOwner wsX3_needOwner) := goodIn_app (goodIn_of _ (by decide +kernel)) ggX3_areaByCells_X3_needOwner
set_option maxRecDepth 20000 in
theorem ggX3_areaByCells_X1_cellsBelow : GoodIn wsX3_areaByCells wsX1_cellsBelow := goodIn_r _ [15, 16, 17, 27, 28, 29, 30, 31, 32, 33, 34] (by decide +kernel) (by decide +kernel)
set_option maxRecDepth 20000 in
theorem gX3_areaByCells_X1_cellsBelow : GoodIn wsX3_areaByCells (wsV RX3 188 RX1 yX1_cellsBelow wsX1_cellsBelow) := goodIn_app (goodIn_of _ (by decide +kernel)) ggX3_areaByCells_X1_cellsBelow
theorem dX3_areaByCells_0 : decode cX3_areaByCells 0 = .ok (.iload_n 1, 1) := by decide +kernel
theorem dX3_areaByCells_1 : decode cX3_areaByCells 1 = .ok (.invokestatic 55, 3) := by decide +kernel
theorem dX3_areaByCells_4 : decode cX3_areaByCells 4 = .ok (.aload_n 0, 1) := by decide +kernel
theorem dX3_areaByCells_5 : decode cX3_areaByCells 5 = .ok (.getfield 20, 3) := by decide +kernel
theorem dX3_areaByCells_8 : decode cX3_areaByCells 8 = .ok (.iload_n 1, 1) := by decide +kernel
theorem dX3_areaByCells_9 : decode cX3_areaByCells 9 = .ok (.bipush 10, 2) := by decide +kernel
theorem dX3_areaByCells_11 : decode cX3_areaByCells 11 = .ok (.invokevirtual 188, 3) := by decide +kernel
theorem dX3_areaByCells_14 : decode cX3_areaByCells 14 = .ok (.ireturn, 1) := by decide +kernel
set_option maxRecDepth 20000 in
theorem ggX3_fenceByPlots_X3_needOwner : GoodIn wsX3_fenceByPlots wsX3_needOwner := goodIn_ca (goodIn_r _ [5, 6, 7, 8, 9, 4, 10] (by decide +kernel) (by decide +kernel)) (goodIn_sub (fun _ h => List.mem_cons_of_mem _ (List.mem_append_right _ h)) (by decide +kernel))
set_option maxRecDepth 20000 in
theorem gX3_fenceByPlots_X3_needOwner : GoodIn wsX3_fenceByPlots (va_wsS RX3 55 yX3_needOwner wsX3_needOwner) := goodIn_app (goodIn_of _ (by decide +kernel)) ggX3_fenceByPlots_X3_needOwner
set_option maxRecDepth 20000 in
theorem ggX3_fenceByPlots_X2_fenceOf : GoodIn wsX3_fenceByPlots wsX2_fenceOf := goodIn_r _ [15, 16, 17, 18, 19, 20, 21, 22, 23, 14, 24, 25, 26, 27, 28, 29, 30, 31, 32, 33, 34, 35, 36, 4, 37, 47, 48, 49, 50, 51, 52, 53, 54, 55, 56, 57, 58, 59, 60, 61] (by decide +kernel) (by decide +kernel)
set_option maxRecDepth 20000 in
theorem gX3_fenceByPlots_X2_fenceOf : GoodIn wsX3_fenceByPlots (wsV RX3 191 RX2 yX2_fenceOf wsX2_fenceOf) := goodIn_app (goodIn_of _ (by decide +kernel)) ggX3_fenceByPlots_X2_fenceOf
theorem dX3_fenceByPlots_0 : decode cX3_fenceByPlots 0 = .ok (.iload_n 1, 1) := by decide +kernel
theorem dX3_fenceByPlots_1 : decode cX3_fenceByPlots 1 = .ok (.invokestatic 55, 3) := by decide +kernel
theorem dX3_fenceByPlots_4 : decode cX3_fenceByPlots 4 = .ok (.aload_n 0, 1) := by decide +kernel
theorem dX3_fenceByPlots_5 : decode cX3_fenceByPlots 5 = .ok (.getfield 12, 3) := by decide +kernel
theorem dX3_fenceByPlots_8 : decode cX3_fenceByPlots 8 = .ok (.iload_n 1, 1) := by decide +kernel
theorem dX3_fenceByPlots_9 : decode cX3_fenceByPlots 9 = .ok (.invokevirtual 191, 3) := by decide +kernel
theorem dX3_fenceByPlots_12 : decode cX3_fenceByPlots 12 = .ok (.ireturn, 1) := by decide +kernel
set_option maxRecDepth 20000 in
theorem ggX3_fenceByCells_X3_needOwner : GoodIn wsX3_fenceByCells wsX3_needOwner := goodIn_ca (goodIn_r _ [5, 6, 7, 8, 9, 4, 10] (by decide +kernel) (by decide +kernel)) (goodIn_sub (fun _ h => List.mem_cons_of_mem _ (List.mem_append_right _ h)) (by decide +kernel))
set_option maxRecDepth 20000 in
theorem gX3_fenceByCells_X3_needOwner : GoodIn wsX3_fenceByCells (va_wsS RX3 55 yX3_needOwner wsX3_needOwner) := goodIn_app (goodIn_of _ (by decide +kernel)) ggX3_fenceByCells_X3_needOwner
set_option maxRecDepth 20000 in
theorem ggX3_fenceByCells_X1_sharedFence : GoodIn wsX3_fenceByCells wsX1_sharedFence := goodIn_r _ [15, 16, 17, 18, 14, 19, 20, 21, 4, 22, 23, 24, 25, 26, 36, 37, 38, 39, 40, 41, 42, 43] (by decide +kernel) (by decide +kernel)
set_option maxRecDepth 20000 in
theorem gX3_fenceByCells_X1_sharedFence : GoodIn wsX3_fenceByCells (wsV RX3 194 RX1 yX1_sharedFence wsX1_sharedFence) := goodIn_app (goodIn_of _ (by decide +kernel)) ggX3_fenceByCells_X1_sharedFence
theorem dX3_fenceByCells_0 : decode cX3_fenceByCells 0 = .ok (.iload_n 1, 1) := by decide +kernel
theorem dX3_fenceByCells_1 : decode cX3_fenceByCells 1 = .ok (.invokestatic 55, 3) := by decide +kernel
theorem dX3_fenceByCells_4 : decode cX3_fenceByCells 4 = .ok (.iconst 0, 1) := by decide +kernel
theorem dX3_fenceByCells_5 : decode cX3_fenceByCells 5 = .ok (.istore_n 2, 1) := by decide +kernel
theorem dX3_fenceByCells_6 : decode cX3_fenceByCells 6 = .ok (.iconst 0, 1) := by decide +kernel
theorem dX3_fenceByCells_7 : decode cX3_fenceByCells 7 = .ok (.istore_n 3, 1) := by decide +kernel
theorem dX3_fenceByCells_8 : decode cX3_fenceByCells 8 = .ok (.iload_n 3, 1) := by decide +kernel
theorem dX3_fenceByCells_9 : decode cX3_fenceByCells 9 = .ok (.bipush 8, 2) := by decide +kernel
theorem dX3_fenceByCells_11 : decode cX3_fenceByCells 11 = .ok (.if_icmp .ge 21, 3) := by decide +kernel
theorem dX3_fenceByCells_14 : decode cX3_fenceByCells 14 = .ok (.iload_n 2, 1) := by decide +kernel
theorem dX3_fenceByCells_15 : decode cX3_fenceByCells 15 = .ok (.aload_n 0, 1) := by decide +kernel
theorem dX3_fenceByCells_16 : decode cX3_fenceByCells 16 = .ok (.getfield 20, 3) := by decide +kernel
theorem dX3_fenceByCells_19 : decode cX3_fenceByCells 19 = .ok (.iload_n 1, 1) := by decide +kernel
theorem dX3_fenceByCells_20 : decode cX3_fenceByCells 20 = .ok (.iload_n 3, 1) := by decide +kernel
theorem dX3_fenceByCells_21 : decode cX3_fenceByCells 21 = .ok (.invokevirtual 194, 3) := by decide +kernel
theorem dX3_fenceByCells_24 : decode cX3_fenceByCells 24 = .ok (.iadd, 1) := by decide +kernel
theorem dX3_fenceByCells_25 : decode cX3_fenceByCells 25 = .ok (.istore_n 2, 1) := by decide +kernel
theorem dX3_fenceByCells_26 : decode cX3_fenceByCells 26 = .ok (.iinc 3 1, 3) := by decide +kernel
theorem dX3_fenceByCells_29 : decode cX3_fenceByCells 29 = .ok (.goto (-21), 3) := by decide +kernel
theorem dX3_fenceByCells_32 : decode cX3_fenceByCells 32 = .ok (.iload_n 2, 1) := by decide +kernel
theorem dX3_fenceByCells_33 : decode cX3_fenceByCells 33 = .ok (.ireturn, 1) := by decide +kernel
set_option maxRecDepth 20000 in
theorem ggX3_fenceBetween_X3_needOwner : GoodIn wsX3_fenceBetween wsX3_needOwner := goodIn_ca (goodIn_r _ [5, 6, 7, 8, 9, 4, 10] (by decide +kernel) (by decide +kernel)) (goodIn_sub (fun _ h => List.mem_cons_of_mem _ (List.mem_append_right _ h)) (by decide +kernel))
set_option maxRecDepth 20000 in
theorem gX3_fenceBetween_X3_needOwner : GoodIn wsX3_fenceBetween (va_wsS RX3 55 yX3_needOwner wsX3_needOwner) := goodIn_app (goodIn_of _ (by decide +kernel)) ggX3_fenceBetween_X3_needOwner
set_option maxRecDepth 20000 in
theorem ggX3_fenceBetween_X1_sharedFence : GoodIn wsX3_fenceBetween wsX1_sharedFence := goodIn_r _ [15, 16, 17, 18, 14, 19, 20, 21, 4, 22, 23, 24, 25, 26, 36, 37, 38, 39, 40, 41, 42, 43] (by decide +kernel) (by decide +kernel)
set_option maxRecDepth 20000 in
theorem gX3_fenceBetween_X1_sharedFence : GoodIn wsX3_fenceBetween (wsV RX3 194 RX1 yX1_sharedFence wsX1_sharedFence) := goodIn_app (goodIn_of _ (by decide +kernel)) ggX3_fenceBetween_X1_sharedFence
theorem dX3_fenceBetween_0 : decode cX3_fenceBetween 0 = .ok (.iload_n 1, 1) := by decide +kernel
theorem dX3_fenceBetween_1 : decode cX3_fenceBetween 1 = .ok (.invokestatic 55, 3) := by decide +kernel
theorem dX3_fenceBetween_4 : decode cX3_fenceBetween 4 = .ok (.iload_n 2, 1) := by decide +kernel
theorem dX3_fenceBetween_5 : decode cX3_fenceBetween 5 = .ok (.invokestatic 55, 3) := by decide +kernel
theorem dX3_fenceBetween_8 : decode cX3_fenceBetween 8 = .ok (.aload_n 0, 1) := by decide +kernel
theorem dX3_fenceBetween_9 : decode cX3_fenceBetween 9 = .ok (.getfield 20, 3) := by decide +kernel
theorem dX3_fenceBetween_12 : decode cX3_fenceBetween 12 = .ok (.iload_n 1, 1) := by decide +kernel
theorem dX3_fenceBetween_13 : decode cX3_fenceBetween 13 = .ok (.iload_n 2, 1) := by decide +kernel
theorem dX3_fenceBetween_14 : decode cX3_fenceBetween 14 = .ok (.invokevirtual 194, 3) := by decide +kernel
theorem dX3_fenceBetween_17 : decode cX3_fenceBetween 17 = .ok (.ireturn, 1) := by decide +kernel
set_option maxRecDepth 20000 in
theorem ggX3_largestPlotOf_X3_needOwner : GoodIn wsX3_largestPlotOf wsX3_needOwner := goodIn_ca (goodIn_r _ [5, 6, 7, 8, 9, 4, 10] (by decide +kernel) (by decide +kernel)) (goodIn_sub (fun _ h => List.mem_cons_of_mem _ (List.mem_append_right _ h)) (by decide +kernel))
set_option maxRecDepth 20000 in
theorem gX3_largestPlotOf_X3_needOwner : GoodIn wsX3_largestPlotOf (va_wsS RX3 55 yX3_needOwner wsX3_needOwner) := goodIn_app (goodIn_of _ (by decide +kernel)) ggX3_largestPlotOf_X3_needOwner
set_option maxRecDepth 20000 in
theorem ggX3_largestPlotOf_X2_firstLargest : GoodIn wsX3_largestPlotOf wsX2_firstLargest := goodIn_r _ [15, 16, 17, 18, 28, 29, 30, 31, 32, 33, 34] (by decide +kernel) (by decide +kernel)
set_option maxRecDepth 20000 in
theorem gX3_largestPlotOf_X2_firstLargest : GoodIn wsX3_largestPlotOf (wsV RX3 197 RX2 yX2_firstLargest wsX2_firstLargest) := goodIn_app (goodIn_of _ (by decide +kernel)) ggX3_largestPlotOf_X2_firstLargest
theorem dX3_largestPlotOf_0 : decode cX3_largestPlotOf 0 = .ok (.iload_n 1, 1) := by decide +kernel
theorem dX3_largestPlotOf_1 : decode cX3_largestPlotOf 1 = .ok (.invokestatic 55, 3) := by decide +kernel
theorem dX3_largestPlotOf_4 : decode cX3_largestPlotOf 4 = .ok (.aload_n 0, 1) := by decide +kernel
theorem dX3_largestPlotOf_5 : decode cX3_largestPlotOf 5 = .ok (.getfield 12, 3) := by decide +kernel
theorem dX3_largestPlotOf_8 : decode cX3_largestPlotOf 8 = .ok (.iload_n 1, 1) := by decide +kernel
theorem dX3_largestPlotOf_9 : decode cX3_largestPlotOf 9 = .ok (.invokevirtual 197, 3) := by decide +kernel
theorem dX3_largestPlotOf_12 : decode cX3_largestPlotOf 12 = .ok (.ireturn, 1) := by decide +kernel
set_option maxRecDepth 20000 in
theorem ggX3_firstToLose_X3_needPerson : GoodIn wsX3_firstToLose wsX3_needPerson := goodIn_ca (goodIn_r _ [5, 6, 7] (by decide +kernel) (by decide +kernel)) (goodIn_sub (fun _ h => List.mem_cons_of_mem _ (List.mem_append_right _ h)) (by decide +kernel))
set_option maxRecDepth 20000 in
theorem gX3_firstToLose_X3_needPerson : GoodIn wsX3_firstToLose (va_wsS RX3 90 yX3_needPerson wsX3_needPerson) := goodIn_app (goodIn_of _ (by decide +kernel)) ggX3_firstToLose_X3_needPerson
set_option maxRecDepth 20000 in
theorem ggX3_firstToLose_X2_lastSmallest : GoodIn wsX3_firstToLose wsX2_lastSmallest := goodIn_r _ [12, 13, 14, 15, 25, 26, 27, 28, 29, 30, 31] (by decide +kernel) (by decide +kernel)
set_option maxRecDepth 20000 in
theorem gX3_firstToLose_X2_lastSmallest : GoodIn wsX3_firstToLose (wsV RX3 200 RX2 yX2_lastSmallest wsX2_lastSmallest) := goodIn_app (goodIn_of _ (by decide +kernel)) ggX3_firstToLose_X2_lastSmallest
theorem dX3_firstToLose_0 : decode cX3_firstToLose 0 = .ok (.iload_n 1, 1) := by decide +kernel
theorem dX3_firstToLose_1 : decode cX3_firstToLose 1 = .ok (.invokestatic 90, 3) := by decide +kernel
theorem dX3_firstToLose_4 : decode cX3_firstToLose 4 = .ok (.aload_n 0, 1) := by decide +kernel
theorem dX3_firstToLose_5 : decode cX3_firstToLose 5 = .ok (.getfield 12, 3) := by decide +kernel
theorem dX3_firstToLose_8 : decode cX3_firstToLose 8 = .ok (.iload_n 1, 1) := by decide +kernel
theorem dX3_firstToLose_9 : decode cX3_firstToLose 9 = .ok (.invokevirtual 200, 3) := by decide +kernel
theorem dX3_firstToLose_12 : decode cX3_firstToLose 12 = .ok (.ireturn, 1) := by decide +kernel
set_option maxRecDepth 20000 in
theorem ggX3_coinsOf_X3_needOwner : GoodIn wsX3_coinsOf wsX3_needOwner := goodIn_ca (goodIn_r _ [5, 6, 7, 8, 9, 4, 10] (by decide +kernel) (by decide +kernel)) (goodIn_sub (fun _ h => List.mem_cons_of_mem _ (List.mem_append_right _ h)) (by decide +kernel))
set_option maxRecDepth 20000 in
theorem gX3_coinsOf_X3_needOwner : GoodIn wsX3_coinsOf (va_wsS RX3 55 yX3_needOwner wsX3_needOwner) := goodIn_app (goodIn_of _ (by decide +kernel)) ggX3_coinsOf_X3_needOwner
set_option maxRecDepth 20000 in
theorem ggX3_coinsOf_X1_purseOf : GoodIn wsX3_coinsOf wsX1_purseOf := goodIn_r _ [15, 16, 9, 4, 10, 26, 27, 28, 29, 30, 31, 32, 33] (by decide +kernel) (by decide +kernel)
set_option maxRecDepth 20000 in
theorem gX3_coinsOf_X1_purseOf : GoodIn wsX3_coinsOf (wsV RX3 203 RX1 yX1_purseOf wsX1_purseOf) := goodIn_app (goodIn_of _ (by decide +kernel)) ggX3_coinsOf_X1_purseOf
theorem dX3_coinsOf_0 : decode cX3_coinsOf 0 = .ok (.iload_n 1, 1) := by decide +kernel
theorem dX3_coinsOf_1 : decode cX3_coinsOf 1 = .ok (.invokestatic 55, 3) := by decide +kernel
theorem dX3_coinsOf_4 : decode cX3_coinsOf 4 = .ok (.aload_n 0, 1) := by decide +kernel
theorem dX3_coinsOf_5 : decode cX3_coinsOf 5 = .ok (.getfield 20, 3) := by decide +kernel
theorem dX3_coinsOf_8 : decode cX3_coinsOf 8 = .ok (.iload_n 1, 1) := by decide +kernel
theorem dX3_coinsOf_9 : decode cX3_coinsOf 9 = .ok (.invokevirtual 203, 3) := by decide +kernel
theorem dX3_coinsOf_12 : decode cX3_coinsOf 12 = .ok (.ireturn, 1) := by decide +kernel
theorem dX3_price_0 : decode cX3_price 0 = .ok (.aload_n 0, 1) := by decide +kernel
theorem dX3_price_1 : decode cX3_price 1 = .ok (.getfield 20, 3) := by decide +kernel
theorem dX3_price_4 : decode cX3_price 4 = .ok (.getfield 119, 3) := by decide +kernel
theorem dX3_price_7 : decode cX3_price 7 = .ok (.ireturn, 1) := by decide +kernel
theorem dX3_tax_0 : decode cX3_tax 0 = .ok (.aload_n 0, 1) := by decide +kernel
theorem dX3_tax_1 : decode cX3_tax 1 = .ok (.getfield 20, 3) := by decide +kernel
theorem dX3_tax_4 : decode cX3_tax 4 = .ok (.getfield 124, 3) := by decide +kernel
theorem dX3_tax_7 : decode cX3_tax 7 = .ok (.ireturn, 1) := by decide +kernel
theorem dX3_sales_0 : decode cX3_sales 0 = .ok (.aload_n 0, 1) := by decide +kernel
theorem dX3_sales_1 : decode cX3_sales 1 = .ok (.getfield 20, 3) := by decide +kernel
theorem dX3_sales_4 : decode cX3_sales 4 = .ok (.getfield 206, 3) := by decide +kernel
theorem dX3_sales_7 : decode cX3_sales 7 = .ok (.ireturn, 1) := by decide +kernel
theorem dX3_floods_0 : decode cX3_floods 0 = .ok (.aload_n 0, 1) := by decide +kernel
theorem dX3_floods_1 : decode cX3_floods 1 = .ok (.getfield 20, 3) := by decide +kernel
theorem dX3_floods_4 : decode cX3_floods 4 = .ok (.getfield 209, 3) := by decide +kernel
theorem dX3_floods_7 : decode cX3_floods 7 = .ok (.ireturn, 1) := by decide +kernel
theorem dX3_plotsLost_0 : decode cX3_plotsLost 0 = .ok (.aload_n 0, 1) := by decide +kernel
theorem dX3_plotsLost_1 : decode cX3_plotsLost 1 = .ok (.getfield 20, 3) := by decide +kernel
theorem dX3_plotsLost_4 : decode cX3_plotsLost 4 = .ok (.getfield 212, 3) := by decide +kernel
theorem dX3_plotsLost_7 : decode cX3_plotsLost 7 = .ok (.ireturn, 1) := by decide +kernel
set_option maxRecDepth 20000 in
theorem ggX3_lowCells_X3_needOwner : GoodIn wsX3_lowCells wsX3_needOwner := goodIn_ca (goodIn_r _ [5, 6, 7, 8, 9, 4, 10] (by decide +kernel) (by decide +kernel)) (goodIn_sub (fun _ h => List.mem_cons_of_mem _ (List.mem_append_left _ (List.mem_append_right _ h))) (by decide +kernel))
set_option maxRecDepth 20000 in
theorem gX3_lowCells_X3_needOwner : GoodIn wsX3_lowCells (va_wsS RX3 55 yX3_needOwner wsX3_needOwner) := goodIn_app (goodIn_of _ (by decide +kernel)) ggX3_lowCells_X3_needOwner
set_option maxRecDepth 20000 in
theorem ggX3_lowCells_X3_needLevel : GoodIn wsX3_lowCells wsX3_needLevel := goodIn_ca (goodIn_r _ [13, 14, 15] (by decide +kernel) (by decide +kernel)) (goodIn_sub (fun _ h => List.mem_cons_of_mem _ (List.mem_append_right _ h)) (by decide +kernel))
set_option maxRecDepth 20000 in
theorem gX3_lowCells_X3_needLevel : GoodIn wsX3_lowCells (va_wsS RX3 83 yX3_needLevel wsX3_needLevel) := goodIn_app (goodIn_of _ (by decide +kernel)) ggX3_lowCells_X3_needLevel
set_option maxRecDepth 20000 in
theorem ggX3_lowCells_X1_cellsBelow : GoodIn wsX3_lowCells wsX1_cellsBelow := goodIn_r _ [20, 21, 22, 32, 33, 34, 35, 36, 37, 38, 39] (by decide +kernel) (by decide +kernel)
set_option maxRecDepth 20000 in
theorem gX3_lowCells_X1_cellsBelow : GoodIn wsX3_lowCells (wsV RX3 188 RX1 yX1_cellsBelow wsX1_cellsBelow) := goodIn_app (goodIn_of _ (by decide +kernel)) ggX3_lowCells_X1_cellsBelow
theorem dX3_lowCells_0 : decode cX3_lowCells 0 = .ok (.iload_n 1, 1) := by decide +kernel
theorem dX3_lowCells_1 : decode cX3_lowCells 1 = .ok (.invokestatic 55, 3) := by decide +kernel
theorem dX3_lowCells_4 : decode cX3_lowCells 4 = .ok (.iload_n 2, 1) := by decide +kernel
theorem dX3_lowCells_5 : decode cX3_lowCells 5 = .ok (.invokestatic 83, 3) := by decide +kernel
theorem dX3_lowCells_8 : decode cX3_lowCells 8 = .ok (.aload_n 0, 1) := by decide +kernel
theorem dX3_lowCells_9 : decode cX3_lowCells 9 = .ok (.getfield 20, 3) := by decide +kernel
theorem dX3_lowCells_12 : decode cX3_lowCells 12 = .ok (.iload_n 1, 1) := by decide +kernel
theorem dX3_lowCells_13 : decode cX3_lowCells 13 = .ok (.iload_n 2, 1) := by decide +kernel
theorem dX3_lowCells_14 : decode cX3_lowCells 14 = .ok (.invokevirtual 188, 3) := by decide +kernel
theorem dX3_lowCells_17 : decode cX3_lowCells 17 = .ok (.ireturn, 1) := by decide +kernel
set_option maxRecDepth 20000 in
theorem ggX3_plotsIfFlooded_X3_needLevel : GoodIn wsX3_plotsIfFlooded wsX3_needLevel := goodIn_ca (goodIn_r _ [6, 7, 8] (by decide +kernel) (by decide +kernel)) (goodIn_sub (fun _ h => List.mem_cons_of_mem _ (List.mem_append_right _ h)) (by decide +kernel))
set_option maxRecDepth 20000 in
theorem gX3_plotsIfFlooded_X3_needLevel : GoodIn wsX3_plotsIfFlooded (va_wsS RX3 83 yX3_needLevel wsX3_needLevel) := goodIn_app (goodIn_of _ (by decide +kernel)) ggX3_plotsIfFlooded_X3_needLevel
set_option maxRecDepth 20000 in
theorem ggX3_plotsIfFlooded_X1_become : GoodIn wsX3_plotsIfFlooded wsX1_become := goodIn_r _ [13, 14, 15, 16, 17, 18, 19, 20, 21, 22, 23, 24, 25, 93, 94, 95, 96, 97, 98, 99, 100] (by decide +kernel) (by decide +kernel)
set_option maxRecDepth 20000 in
theorem gX3_plotsIfFlooded_X1_become : GoodIn wsX3_plotsIfFlooded (wsV RX3 215 RX1 yX1_become wsX1_become) := goodIn_app (goodIn_of _ (by decide +kernel)) ggX3_plotsIfFlooded_X1_become
set_option maxRecDepth 20000 in
theorem ggX3_plotsIfFlooded_X1_drown : GoodIn wsX3_plotsIfFlooded wsX1_drown := goodIn_r _ [29, 19, 14, 24, 93, 94, 95, 96, 97, 98, 99, 100] (by decide +kernel) (by decide +kernel)
set_option maxRecDepth 20000 in
theorem gX3_plotsIfFlooded_X1_drown : GoodIn wsX3_plotsIfFlooded (wsV RX3 86 RX1 yX1_drown wsX1_drown) := goodIn_app (goodIn_of _ (by decide +kernel)) ggX3_plotsIfFlooded_X1_drown
set_option maxRecDepth 20000 in
theorem ggX3_plotsIfFlooded_X2_measure : GoodIn wsX3_plotsIfFlooded wsX2_measure := goodIn_r _ [34, 35, 36, 37, 38, 39, 40, 41, 42, 33, 43, 44, 45, 46, 47, 48, 5, 49, 50, 51, 52, 53, 54, 55, 56, 57, 12, 58, 14, 59, 60, 61, 62, 63, 64, 65, 66, 67, 68, 69, 70, 71, 72, 86, 87, 88, 89, 90, 91, 92, 93, 94, 95, 96, 97, 98, 99, 100] (by decide +kernel) (by decide +kernel)
set_option maxRecDepth 20000 in
theorem gX3_plotsIfFlooded_X2_measure : GoodIn wsX3_plotsIfFlooded (wsV RX3 70 RX2 yX2_measure wsX2_measure) := goodIn_app (goodIn_of _ (by decide +kernel)) ggX3_plotsIfFlooded_X2_measure
set_option maxRecDepth 20000 in
theorem ggX3_plotsIfFlooded_X2_count : GoodIn wsX3_plotsIfFlooded wsX2_count := goodIn_r _ [76, 36, 86, 87, 88, 89, 90, 91, 92] (by decide +kernel) (by decide +kernel)
set_option maxRecDepth 20000 in
theorem gX3_plotsIfFlooded_X2_count : GoodIn wsX3_plotsIfFlooded (wsV RX3 163 RX2 yX2_count wsX2_count) := goodIn_app (goodIn_of _ (by decide +kernel)) ggX3_plotsIfFlooded_X2_count
theorem dX3_plotsIfFlooded_0 : decode cX3_plotsIfFlooded 0 = .ok (.iload_n 1, 1) := by decide +kernel
theorem dX3_plotsIfFlooded_1 : decode cX3_plotsIfFlooded 1 = .ok (.invokestatic 83, 3) := by decide +kernel
theorem dX3_plotsIfFlooded_4 : decode cX3_plotsIfFlooded 4 = .ok (.aload_n 0, 1) := by decide +kernel
theorem dX3_plotsIfFlooded_5 : decode cX3_plotsIfFlooded 5 = .ok (.getfield 21, 3) := by decide +kernel
theorem dX3_plotsIfFlooded_8 : decode cX3_plotsIfFlooded 8 = .ok (.getfield 16, 3) := by decide +kernel
theorem dX3_plotsIfFlooded_11 : decode cX3_plotsIfFlooded 11 = .ok (.aload_n 0, 1) := by decide +kernel
theorem dX3_plotsIfFlooded_12 : decode cX3_plotsIfFlooded 12 = .ok (.getfield 20, 3) := by decide +kernel
theorem dX3_plotsIfFlooded_15 : decode cX3_plotsIfFlooded 15 = .ok (.invokevirtual 215, 3) := by decide +kernel
theorem dX3_plotsIfFlooded_18 : decode cX3_plotsIfFlooded 18 = .ok (.aload_n 0, 1) := by decide +kernel
theorem dX3_plotsIfFlooded_19 : decode cX3_plotsIfFlooded 19 = .ok (.getfield 21, 3) := by decide +kernel
theorem dX3_plotsIfFlooded_22 : decode cX3_plotsIfFlooded 22 = .ok (.getfield 16, 3) := by decide +kernel
theorem dX3_plotsIfFlooded_25 : decode cX3_plotsIfFlooded 25 = .ok (.iload_n 1, 1) := by decide +kernel
theorem dX3_plotsIfFlooded_26 : decode cX3_plotsIfFlooded 26 = .ok (.invokevirtual 86, 3) := by decide +kernel
theorem dX3_plotsIfFlooded_29 : decode cX3_plotsIfFlooded 29 = .ok (.pop, 1) := by decide +kernel
theorem dX3_plotsIfFlooded_30 : decode cX3_plotsIfFlooded 30 = .ok (.aload_n 0, 1) := by decide +kernel
theorem dX3_plotsIfFlooded_31 : decode cX3_plotsIfFlooded 31 = .ok (.getfield 21, 3) := by decide +kernel
theorem dX3_plotsIfFlooded_34 : decode cX3_plotsIfFlooded 34 = .ok (.invokevirtual 70, 3) := by decide +kernel
theorem dX3_plotsIfFlooded_37 : decode cX3_plotsIfFlooded 37 = .ok (.aload_n 0, 1) := by decide +kernel
theorem dX3_plotsIfFlooded_38 : decode cX3_plotsIfFlooded 38 = .ok (.getfield 21, 3) := by decide +kernel
theorem dX3_plotsIfFlooded_41 : decode cX3_plotsIfFlooded 41 = .ok (.invokevirtual 163, 3) := by decide +kernel
theorem dX3_plotsIfFlooded_44 : decode cX3_plotsIfFlooded 44 = .ok (.ireturn, 1) := by decide +kernel
set_option maxRecDepth 20000 in
theorem ggX3_lossesIfTaxed_X3_needPerson : GoodIn wsX3_lossesIfTaxed wsX3_needPerson := goodIn_ca (goodIn_r _ [4, 5, 6] (by decide +kernel) (by decide +kernel)) (goodIn_sub (fun _ h => List.mem_cons_of_mem _ (List.mem_append_right _ h)) (by decide +kernel))
set_option maxRecDepth 20000 in
theorem gX3_lossesIfTaxed_X3_needPerson : GoodIn wsX3_lossesIfTaxed (va_wsS RX3 90 yX3_needPerson wsX3_needPerson) := goodIn_app (goodIn_of _ (by decide +kernel)) ggX3_lossesIfTaxed_X3_needPerson
set_option maxRecDepth 20000 in
theorem ggX3_lossesIfTaxed_X3_lossesOf : GoodIn wsX3_lossesIfTaxed wsX3_lossesOf := goodIn_r _ [10, 11, 12, 13, 14, 15, 16, 17, 18, 19, 20, 21, 22, 23, 24, 25, 26, 3, 27, 28, 29, 30, 31, 32, 33, 34, 35, 36, 37, 38, 39, 40, 41, 42, 43, 44, 45, 46, 47, 48, 49, 50, 51] (by decide +kernel) (by decide +kernel)
set_option maxRecDepth 20000 in
theorem gX3_lossesIfTaxed_X3_lossesOf : GoodIn wsX3_lossesIfTaxed (wsV RX3 218 RX3 yX3_lossesOf wsX3_lossesOf) := goodIn_app (goodIn_of _ (by decide +kernel)) ggX3_lossesIfTaxed_X3_lossesOf
theorem dX3_lossesIfTaxed_0 : decode cX3_lossesIfTaxed 0 = .ok (.iload_n 1, 1) := by decide +kernel
theorem dX3_lossesIfTaxed_1 : decode cX3_lossesIfTaxed 1 = .ok (.invokestatic 90, 3) := by decide +kernel
theorem dX3_lossesIfTaxed_4 : decode cX3_lossesIfTaxed 4 = .ok (.aload_n 0, 1) := by decide +kernel
theorem dX3_lossesIfTaxed_5 : decode cX3_lossesIfTaxed 5 = .ok (.iload_n 1, 1) := by decide +kernel
theorem dX3_lossesIfTaxed_6 : decode cX3_lossesIfTaxed 6 = .ok (.invokevirtual 218, 3) := by decide +kernel
theorem dX3_lossesIfTaxed_9 : decode cX3_lossesIfTaxed 9 = .ok (.ireturn, 1) := by decide +kernel
set_option maxRecDepth 20000 in
theorem ggX3_nearestNeighbour_X3_needOwner : GoodIn wsX3_nearestNeighbour wsX3_needOwner := goodIn_ca (goodIn_r _ [5, 6, 7, 8, 9, 4, 10] (by decide +kernel) (by decide +kernel)) (goodIn_sub (fun _ h => List.mem_cons_of_mem _ (List.mem_append_right _ h)) (by decide +kernel))
set_option maxRecDepth 20000 in
theorem gX3_nearestNeighbour_X3_needOwner : GoodIn wsX3_nearestNeighbour (va_wsS RX3 55 yX3_needOwner wsX3_needOwner) := goodIn_app (goodIn_of _ (by decide +kernel)) ggX3_nearestNeighbour_X3_needOwner
set_option maxRecDepth 20000 in
theorem ggX3_nearestNeighbour_X1_sharedFence : GoodIn wsX3_nearestNeighbour wsX1_sharedFence := goodIn_r _ [15, 16, 17, 18, 14, 19, 20, 21, 4, 22, 23, 24, 25, 26, 36, 37, 38, 39, 40, 41, 42, 43] (by decide +kernel) (by decide +kernel)
set_option maxRecDepth 20000 in
theorem gX3_nearestNeighbour_X1_sharedFence : GoodIn wsX3_nearestNeighbour (wsV RX3 194 RX1 yX1_sharedFence wsX1_sharedFence) := goodIn_app (goodIn_of _ (by decide +kernel)) ggX3_nearestNeighbour_X1_sharedFence
theorem dX3_nearestNeighbour_0 : decode cX3_nearestNeighbour 0 = .ok (.iload_n 1, 1) := by decide +kernel
theorem dX3_nearestNeighbour_1 : decode cX3_nearestNeighbour 1 = .ok (.invokestatic 55, 3) := by decide +kernel
theorem dX3_nearestNeighbour_4 : decode cX3_nearestNeighbour 4 = .ok (.iconst (-1), 1) := by decide +kernel
theorem dX3_nearestNeighbour_5 : decode cX3_nearestNeighbour 5 = .ok (.istore_n 2, 1) := by decide +kernel
theorem dX3_nearestNeighbour_6 : decode cX3_nearestNeighbour 6 = .ok (.iconst 0, 1) := by decide +kernel
theorem dX3_nearestNeighbour_7 : decode cX3_nearestNeighbour 7 = .ok (.istore_n 3, 1) := by decide +kernel
theorem dX3_nearestNeighbour_8 : decode cX3_nearestNeighbour 8 = .ok (.iconst 0, 1) := by decide +kernel
theorem dX3_nearestNeighbour_9 : decode cX3_nearestNeighbour 9 = .ok (.istore 4, 2) := by decide +kernel
theorem dX3_nearestNeighbour_11 : decode cX3_nearestNeighbour 11 = .ok (.iload 4, 2) := by decide +kernel
theorem dX3_nearestNeighbour_13 : decode cX3_nearestNeighbour 13 = .ok (.bipush 8, 2) := by decide +kernel
theorem dX3_nearestNeighbour_15 : decode cX3_nearestNeighbour 15 = .ok (.if_icmp .ge 33, 3) := by decide +kernel
theorem dX3_nearestNeighbour_18 : decode cX3_nearestNeighbour 18 = .ok (.aload_n 0, 1) := by decide +kernel
theorem dX3_nearestNeighbour_19 : decode cX3_nearestNeighbour 19 = .ok (.getfield 20, 3) := by decide +kernel
theorem dX3_nearestNeighbour_22 : decode cX3_nearestNeighbour 22 = .ok (.iload_n 1, 1) := by decide +kernel
theorem dX3_nearestNeighbour_23 : decode cX3_nearestNeighbour 23 = .ok (.iload 4, 2) := by decide +kernel
theorem dX3_nearestNeighbour_25 : decode cX3_nearestNeighbour 25 = .ok (.invokevirtual 194, 3) := by decide +kernel
theorem dX3_nearestNeighbour_28 : decode cX3_nearestNeighbour 28 = .ok (.istore 5, 2) := by decide +kernel
theorem dX3_nearestNeighbour_30 : decode cX3_nearestNeighbour 30 = .ok (.iload 5, 2) := by decide +kernel
theorem dX3_nearestNeighbour_32 : decode cX3_nearestNeighbour 32 = .ok (.iload_n 3, 1) := by decide +kernel
theorem dX3_nearestNeighbour_33 : decode cX3_nearestNeighbour 33 = .ok (.if_icmp .le 9, 3) := by decide +kernel
theorem dX3_nearestNeighbour_36 : decode cX3_nearestNeighbour 36 = .ok (.iload 5, 2) := by decide +kernel
theorem dX3_nearestNeighbour_38 : decode cX3_nearestNeighbour 38 = .ok (.istore_n 3, 1) := by decide +kernel
theorem dX3_nearestNeighbour_39 : decode cX3_nearestNeighbour 39 = .ok (.iload 4, 2) := by decide +kernel
theorem dX3_nearestNeighbour_41 : decode cX3_nearestNeighbour 41 = .ok (.istore_n 2, 1) := by decide +kernel
theorem dX3_nearestNeighbour_42 : decode cX3_nearestNeighbour 42 = .ok (.iinc 4 1, 3) := by decide +kernel
theorem dX3_nearestNeighbour_45 : decode cX3_nearestNeighbour 45 = .ok (.goto (-34), 3) := by decide +kernel
theorem dX3_nearestNeighbour_48 : decode cX3_nearestNeighbour 48 = .ok (.iload_n 2, 1) := by decide +kernel
theorem dX3_nearestNeighbour_49 : decode cX3_nearestNeighbour 49 = .ok (.ireturn, 1) := by decide +kernel
set_option maxRecDepth 20000 in
theorem ggX3_meanHeight_X1_sumOfHeights : GoodIn wsX3_meanHeight wsX1_sumOfHeights := goodIn_r _ [7, 8, 18, 19, 20, 21, 22, 23, 24, 25] (by decide +kernel) (by decide +kernel)
set_option maxRecDepth 20000 in
theorem gX3_meanHeight_X1_sumOfHeights : GoodIn wsX3_meanHeight (wsV RX3 221 RX1 yX1_sumOfHeights wsX1_sumOfHeights) := goodIn_app (goodIn_of _ (by decide +kernel)) ggX3_meanHeight_X1_sumOfHeights
theorem dX3_meanHeight_0 : decode cX3_meanHeight 0 = .ok (.aload_n 0, 1) := by decide +kernel
theorem dX3_meanHeight_1 : decode cX3_meanHeight 1 = .ok (.getfield 20, 3) := by decide +kernel
theorem dX3_meanHeight_4 : decode cX3_meanHeight 4 = .ok (.invokevirtual 221, 3) := by decide +kernel
theorem dX3_meanHeight_7 : decode cX3_meanHeight 7 = .ok (.i2d, 1) := by decide +kernel
theorem dX3_meanHeight_8 : decode cX3_meanHeight 8 = .ok (.ldc2_w 224, 3) := by decide +kernel
theorem dX3_meanHeight_11 : decode cX3_meanHeight 11 = .ok (.ddiv, 1) := by decide +kernel
theorem dX3_meanHeight_12 : decode cX3_meanHeight 12 = .ok (.dreturn, 1) := by decide +kernel
set_option maxRecDepth 20000 in
theorem ggX3_needCell_X3_isCell : GoodIn wsX3_needCell wsX3_isCell := goodIn_r _ [6] (by decide +kernel) (by decide +kernel)
set_option maxRecDepth 20000 in
theorem gX3_needCell_X3_isCell : GoodIn wsX3_needCell (va_wsS RX3 226 yX3_isCell wsX3_isCell) := goodIn_app (goodIn_of _ (by decide +kernel)) ggX3_needCell_X3_isCell
theorem dX3_needCell_0 : decode cX3_needCell 0 = .ok (.iload_n 0, 1) := by decide +kernel
theorem dX3_needCell_1 : decode cX3_needCell 1 = .ok (.iload_n 1, 1) := by decide +kernel
theorem dX3_needCell_2 : decode cX3_needCell 2 = .ok (.invokestatic 226, 3) := by decide +kernel
theorem dX3_needCell_5 : decode cX3_needCell 5 = .ok (.ifCond .ne 13, 3) := by decide +kernel
theorem dX3_needCell_8 : decode cX3_needCell 8 = .ok (.new 230, 3) := by decide +kernel
theorem dX3_needCell_11 : decode cX3_needCell 11 = .ok (.dup, 1) := by decide +kernel
theorem dX3_needCell_12 : decode cX3_needCell 12 = .ok (.ldc 232, 2) := by decide +kernel
theorem dX3_needCell_14 : decode cX3_needCell 14 = .ok (.invokespecial 234, 3) := by decide +kernel
theorem dX3_needCell_17 : decode cX3_needCell 17 = .ok (.athrow, 1) := by decide +kernel
theorem dX3_needCell_18 : decode cX3_needCell 18 = .ok (.return_, 1) := by decide +kernel
set_option maxRecDepth 20000 in
theorem ggX3_needOwner_X3_isOwner : GoodIn wsX3_needOwner wsX3_isOwner := goodIn_r _ [6] (by decide +kernel) (by decide +kernel)
set_option maxRecDepth 20000 in
theorem gX3_needOwner_X3_isOwner : GoodIn wsX3_needOwner (va_wsS RX3 235 yX3_isOwner wsX3_isOwner) := goodIn_app (goodIn_of _ (by decide +kernel)) ggX3_needOwner_X3_isOwner
theorem dX3_needOwner_0 : decode cX3_needOwner 0 = .ok (.iload_n 0, 1) := by decide +kernel
theorem dX3_needOwner_1 : decode cX3_needOwner 1 = .ok (.invokestatic 235, 3) := by decide +kernel
theorem dX3_needOwner_4 : decode cX3_needOwner 4 = .ok (.ifCond .ne 13, 3) := by decide +kernel
theorem dX3_needOwner_7 : decode cX3_needOwner 7 = .ok (.new 230, 3) := by decide +kernel
theorem dX3_needOwner_10 : decode cX3_needOwner 10 = .ok (.dup, 1) := by decide +kernel
theorem dX3_needOwner_11 : decode cX3_needOwner 11 = .ok (.ldc 239, 2) := by decide +kernel
theorem dX3_needOwner_13 : decode cX3_needOwner 13 = .ok (.invokespecial 234, 3) := by decide +kernel
theorem dX3_needOwner_16 : decode cX3_needOwner 16 = .ok (.athrow, 1) := by decide +kernel
theorem dX3_needOwner_17 : decode cX3_needOwner 17 = .ok (.return_, 1) := by decide +kernel
theorem dX3_needPerson_0 : decode cX3_needPerson 0 = .ok (.iload_n 0, 1) := by decide +kernel
theorem dX3_needPerson_1 : decode cX3_needPerson 1 = .ok (.ifCond .le 9, 3) := by decide +kernel
theorem dX3_needPerson_4 : decode cX3_needPerson 4 = .ok (.iload_n 0, 1) := by decide +kernel
theorem dX3_needPerson_5 : decode cX3_needPerson 5 = .ok (.bipush 8, 2) := by decide +kernel
theorem dX3_needPerson_7 : decode cX3_needPerson 7 = .ok (.if_icmp .lt 13, 3) := by decide +kernel
theorem dX3_needPerson_10 : decode cX3_needPerson 10 = .ok (.new 230, 3) := by decide +kernel
theorem dX3_needPerson_13 : decode cX3_needPerson 13 = .ok (.dup, 1) := by decide +kernel
theorem dX3_needPerson_14 : decode cX3_needPerson 14 = .ok (.ldc 241, 2) := by decide +kernel
theorem dX3_needPerson_16 : decode cX3_needPerson 16 = .ok (.invokespecial 234, 3) := by decide +kernel
theorem dX3_needPerson_19 : decode cX3_needPerson 19 = .ok (.athrow, 1) := by decide +kernel
theorem dX3_needPerson_20 : decode cX3_needPerson 20 = .ok (.return_, 1) := by decide +kernel
theorem dX3_needSlot_0 : decode cX3_needSlot 0 = .ok (.iload_n 0, 1) := by decide +kernel
theorem dX3_needSlot_1 : decode cX3_needSlot 1 = .ok (.ifCond .lt 8, 3) := by decide +kernel
theorem dX3_needSlot_4 : decode cX3_needSlot 4 = .ok (.iload_n 0, 1) := by decide +kernel
theorem dX3_needSlot_5 : decode cX3_needSlot 5 = .ok (.iconst 2, 1) := by decide +kernel
theorem dX3_needSlot_6 : decode cX3_needSlot 6 = .ok (.if_icmp .lt 13, 3) := by decide +kernel
theorem dX3_needSlot_9 : decode cX3_needSlot 9 = .ok (.new 230, 3) := by decide +kernel
theorem dX3_needSlot_12 : decode cX3_needSlot 12 = .ok (.dup, 1) := by decide +kernel
theorem dX3_needSlot_13 : decode cX3_needSlot 13 = .ok (.ldc 243, 2) := by decide +kernel
theorem dX3_needSlot_15 : decode cX3_needSlot 15 = .ok (.invokespecial 234, 3) := by decide +kernel
theorem dX3_needSlot_18 : decode cX3_needSlot 18 = .ok (.athrow, 1) := by decide +kernel
theorem dX3_needSlot_19 : decode cX3_needSlot 19 = .ok (.return_, 1) := by decide +kernel
set_option maxRecDepth 20000 in
theorem ggX3_needSquare_X3_isSquare : GoodIn wsX3_needSquare wsX3_isSquare := goodIn_r _ [6] (by decide +kernel) (by decide +kernel)
set_option maxRecDepth 20000 in
theorem gX3_needSquare_X3_isSquare : GoodIn wsX3_needSquare (va_wsS RX3 245 yX3_isSquare wsX3_isSquare) := goodIn_app (goodIn_of _ (by decide +kernel)) ggX3_needSquare_X3_isSquare
theorem dX3_needSquare_0 : decode cX3_needSquare 0 = .ok (.iload_n 0, 1) := by decide +kernel
theorem dX3_needSquare_1 : decode cX3_needSquare 1 = .ok (.iload_n 1, 1) := by decide +kernel
theorem dX3_needSquare_2 : decode cX3_needSquare 2 = .ok (.iload_n 2, 1) := by decide +kernel
theorem dX3_needSquare_3 : decode cX3_needSquare 3 = .ok (.invokestatic 245, 3) := by decide +kernel
theorem dX3_needSquare_6 : decode cX3_needSquare 6 = .ok (.ifCond .ne 13, 3) := by decide +kernel
theorem dX3_needSquare_9 : decode cX3_needSquare 9 = .ok (.new 73, 3) := by decide +kernel
theorem dX3_needSquare_12 : decode cX3_needSquare 12 = .ok (.dup, 1) := by decide +kernel
theorem dX3_needSquare_13 : decode cX3_needSquare 13 = .ok (.ldc 249, 2) := by decide +kernel
theorem dX3_needSquare_15 : decode cX3_needSquare 15 = .ok (.invokespecial 77, 3) := by decide +kernel
theorem dX3_needSquare_18 : decode cX3_needSquare 18 = .ok (.athrow, 1) := by decide +kernel
theorem dX3_needSquare_19 : decode cX3_needSquare 19 = .ok (.return_, 1) := by decide +kernel
theorem dX3_needLevel_0 : decode cX3_needLevel 0 = .ok (.iload_n 0, 1) := by decide +kernel
theorem dX3_needLevel_1 : decode cX3_needLevel 1 = .ok (.iconst 1, 1) := by decide +kernel
theorem dX3_needLevel_2 : decode cX3_needLevel 2 = .ok (.if_icmp .lt 9, 3) := by decide +kernel
theorem dX3_needLevel_5 : decode cX3_needLevel 5 = .ok (.iload_n 0, 1) := by decide +kernel
theorem dX3_needLevel_6 : decode cX3_needLevel 6 = .ok (.bipush 10, 2) := by decide +kernel
theorem dX3_needLevel_8 : decode cX3_needLevel 8 = .ok (.if_icmp .le 13, 3) := by decide +kernel
theorem dX3_needLevel_11 : decode cX3_needLevel 11 = .ok (.new 73, 3) := by decide +kernel
theorem dX3_needLevel_14 : decode cX3_needLevel 14 = .ok (.dup, 1) := by decide +kernel
theorem dX3_needLevel_15 : decode cX3_needLevel 15 = .ok (.ldc 251, 2) := by decide +kernel
theorem dX3_needLevel_17 : decode cX3_needLevel 17 = .ok (.invokespecial 77, 3) := by decide +kernel
theorem dX3_needLevel_20 : decode cX3_needLevel 20 = .ok (.athrow, 1) := by decide +kernel
theorem dX3_needLevel_21 : decode cX3_needLevel 21 = .ok (.return_, 1) := by decide +kernel
set_option maxRecDepth 20000 in
theorem ggX3_needPlot_X2_isPlot : GoodIn wsX3_needPlot wsX2_isPlot := goodIn_r _ [8, 9, 19, 20, 21, 22, 23, 24, 25] (by decide +kernel) (by decide +kernel)
set_option maxRecDepth 20000 in
theorem gX3_needPlot_X2_isPlot : GoodIn wsX3_needPlot (wsV RX3 253 RX2 yX2_isPlot wsX2_isPlot) := goodIn_app (goodIn_of _ (by decide +kernel)) ggX3_needPlot_X2_isPlot
theorem dX3_needPlot_0 : decode cX3_needPlot 0 = .ok (.aload_n 0, 1) := by decide +kernel
theorem dX3_needPlot_1 : decode cX3_needPlot 1 = .ok (.getfield 12, 3) := by decide +kernel
theorem dX3_needPlot_4 : decode cX3_needPlot 4 = .ok (.iload_n 1, 1) := by decide +kernel
theorem dX3_needPlot_5 : decode cX3_needPlot 5 = .ok (.invokevirtual 253, 3) := by decide +kernel
theorem dX3_needPlot_8 : decode cX3_needPlot 8 = .ok (.ifCond .ne 14, 3) := by decide +kernel
theorem dX3_needPlot_11 : decode cX3_needPlot 11 = .ok (.new 230, 3) := by decide +kernel
theorem dX3_needPlot_14 : decode cX3_needPlot 14 = .ok (.dup, 1) := by decide +kernel
theorem dX3_needPlot_15 : decode cX3_needPlot 15 = .ok (.ldc_w 256, 3) := by decide +kernel
theorem dX3_needPlot_18 : decode cX3_needPlot 18 = .ok (.invokespecial 234, 3) := by decide +kernel
theorem dX3_needPlot_21 : decode cX3_needPlot 21 = .ok (.athrow, 1) := by decide +kernel
theorem dX3_needPlot_22 : decode cX3_needPlot 22 = .ok (.return_, 1) := by decide +kernel
set_option maxRecDepth 20000 in
theorem ggX3_needSale_X1_canSell : GoodIn wsX3_needSale wsX1_canSell := goodIn_r _ [8, 9, 10, 11, 7, 12, 13, 14, 15, 16, 17, 18, 19, 20, 21, 22, 23, 24, 25, 26, 27, 28, 29, 30, 31, 32, 33, 34, 44, 45, 46, 47, 48, 49, 50, 51] (by decide +kernel) (by decide +kernel)
set_option maxRecDepth 20000 in
theorem gX3_needSale_X1_canSell : GoodIn wsX3_needSale (wsV RX3 258 RX1 yX1_canSell wsX1_canSell) := goodIn_app (goodIn_of _ (by decide +kernel)) ggX3_needSale_X1_canSell
theorem dX3_needSale_0 : decode cX3_needSale 0 = .ok (.aload_n 0, 1) := by decide +kernel
theorem dX3_needSale_1 : decode cX3_needSale 1 = .ok (.getfield 20, 3) := by decide +kernel
theorem dX3_needSale_4 : decode cX3_needSale 4 = .ok (.iload_n 1, 1) := by decide +kernel
theorem dX3_needSale_5 : decode cX3_needSale 5 = .ok (.iload_n 2, 1) := by decide +kernel
theorem dX3_needSale_6 : decode cX3_needSale 6 = .ok (.iload_n 3, 1) := by decide +kernel
theorem dX3_needSale_7 : decode cX3_needSale 7 = .ok (.iload 4, 2) := by decide +kernel
theorem dX3_needSale_9 : decode cX3_needSale 9 = .ok (.invokevirtual 258, 3) := by decide +kernel
theorem dX3_needSale_12 : decode cX3_needSale 12 = .ok (.ifCond .ne 14, 3) := by decide +kernel
theorem dX3_needSale_15 : decode cX3_needSale 15 = .ok (.new 129, 3) := by decide +kernel
theorem dX3_needSale_18 : decode cX3_needSale 18 = .ok (.dup, 1) := by decide +kernel
theorem dX3_needSale_19 : decode cX3_needSale 19 = .ok (.ldc_w 262, 3) := by decide +kernel
theorem dX3_needSale_22 : decode cX3_needSale 22 = .ok (.invokespecial 133, 3) := by decide +kernel
theorem dX3_needSale_25 : decode cX3_needSale 25 = .ok (.athrow, 1) := by decide +kernel
theorem dX3_needSale_26 : decode cX3_needSale 26 = .ok (.return_, 1) := by decide +kernel
theorem dX3_isCell_0 : decode cX3_isCell 0 = .ok (.iload_n 0, 1) := by decide +kernel
theorem dX3_isCell_1 : decode cX3_isCell 1 = .ok (.ifCond .lt 23, 3) := by decide +kernel
theorem dX3_isCell_4 : decode cX3_isCell 4 = .ok (.iload_n 0, 1) := by decide +kernel
theorem dX3_isCell_5 : decode cX3_isCell 5 = .ok (.bipush 16, 2) := by decide +kernel
theorem dX3_isCell_7 : decode cX3_isCell 7 = .ok (.if_icmp .ge 17, 3) := by decide +kernel
theorem dX3_isCell_10 : decode cX3_isCell 10 = .ok (.iload_n 1, 1) := by decide +kernel
theorem dX3_isCell_11 : decode cX3_isCell 11 = .ok (.ifCond .lt 13, 3) := by decide +kernel
theorem dX3_isCell_14 : decode cX3_isCell 14 = .ok (.iload_n 1, 1) := by decide +kernel
theorem dX3_isCell_15 : decode cX3_isCell 15 = .ok (.bipush 16, 2) := by decide +kernel
theorem dX3_isCell_17 : decode cX3_isCell 17 = .ok (.if_icmp .ge 7, 3) := by decide +kernel
theorem dX3_isCell_20 : decode cX3_isCell 20 = .ok (.iconst 1, 1) := by decide +kernel
theorem dX3_isCell_21 : decode cX3_isCell 21 = .ok (.goto 4, 3) := by decide +kernel
theorem dX3_isCell_24 : decode cX3_isCell 24 = .ok (.iconst 0, 1) := by decide +kernel
theorem dX3_isCell_25 : decode cX3_isCell 25 = .ok (.ireturn, 1) := by decide +kernel
theorem dX3_isOwner_0 : decode cX3_isOwner 0 = .ok (.iload_n 0, 1) := by decide +kernel
theorem dX3_isOwner_1 : decode cX3_isOwner 1 = .ok (.ifCond .lt 13, 3) := by decide +kernel
theorem dX3_isOwner_4 : decode cX3_isOwner 4 = .ok (.iload_n 0, 1) := by decide +kernel
theorem dX3_isOwner_5 : decode cX3_isOwner 5 = .ok (.bipush 8, 2) := by decide +kernel
theorem dX3_isOwner_7 : decode cX3_isOwner 7 = .ok (.if_icmp .ge 7, 3) := by decide +kernel
theorem dX3_isOwner_10 : decode cX3_isOwner 10 = .ok (.iconst 1, 1) := by decide +kernel
theorem dX3_isOwner_11 : decode cX3_isOwner 11 = .ok (.goto 4, 3) := by decide +kernel
theorem dX3_isOwner_14 : decode cX3_isOwner 14 = .ok (.iconst 0, 1) := by decide +kernel
theorem dX3_isOwner_15 : decode cX3_isOwner 15 = .ok (.ireturn, 1) := by decide +kernel
theorem dX3_isSquare_0 : decode cX3_isSquare 0 = .ok (.iload_n 2, 1) := by decide +kernel
theorem dX3_isSquare_1 : decode cX3_isSquare 1 = .ok (.iconst 1, 1) := by decide +kernel
theorem dX3_isSquare_2 : decode cX3_isSquare 2 = .ok (.if_icmp .eq 25, 3) := by decide +kernel
theorem dX3_isSquare_5 : decode cX3_isSquare 5 = .ok (.iload_n 2, 1) := by decide +kernel
theorem dX3_isSquare_6 : decode cX3_isSquare 6 = .ok (.iconst 2, 1) := by decide +kernel
theorem dX3_isSquare_7 : decode cX3_isSquare 7 = .ok (.if_icmp .eq 20, 3) := by decide +kernel
theorem dX3_isSquare_10 : decode cX3_isSquare 10 = .ok (.iload_n 2, 1) := by decide +kernel
theorem dX3_isSquare_11 : decode cX3_isSquare 11 = .ok (.iconst 4, 1) := by decide +kernel
theorem dX3_isSquare_12 : decode cX3_isSquare 12 = .ok (.if_icmp .eq 15, 3) := by decide +kernel
theorem dX3_isSquare_15 : decode cX3_isSquare 15 = .ok (.iload_n 2, 1) := by decide +kernel
theorem dX3_isSquare_16 : decode cX3_isSquare 16 = .ok (.bipush 8, 2) := by decide +kernel
theorem dX3_isSquare_18 : decode cX3_isSquare 18 = .ok (.if_icmp .eq 9, 3) := by decide +kernel
theorem dX3_isSquare_21 : decode cX3_isSquare 21 = .ok (.iload_n 2, 1) := by decide +kernel
theorem dX3_isSquare_22 : decode cX3_isSquare 22 = .ok (.bipush 16, 2) := by decide +kernel
theorem dX3_isSquare_24 : decode cX3_isSquare 24 = .ok (.if_icmp .ne 7, 3) := by decide +kernel
theorem dX3_isSquare_27 : decode cX3_isSquare 27 = .ok (.iconst 1, 1) := by decide +kernel
theorem dX3_isSquare_28 : decode cX3_isSquare 28 = .ok (.goto 4, 3) := by decide +kernel
theorem dX3_isSquare_31 : decode cX3_isSquare 31 = .ok (.iconst 0, 1) := by decide +kernel
theorem dX3_isSquare_32 : decode cX3_isSquare 32 = .ok (.istore_n 3, 1) := by decide +kernel
theorem dX3_isSquare_33 : decode cX3_isSquare 33 = .ok (.iload_n 0, 1) := by decide +kernel
theorem dX3_isSquare_34 : decode cX3_isSquare 34 = .ok (.ifCond .lt 23, 3) := by decide +kernel
theorem dX3_isSquare_37 : decode cX3_isSquare 37 = .ok (.iload_n 0, 1) := by decide +kernel
theorem dX3_isSquare_38 : decode cX3_isSquare 38 = .ok (.bipush 16, 2) := by decide +kernel
theorem dX3_isSquare_40 : decode cX3_isSquare 40 = .ok (.if_icmp .ge 17, 3) := by decide +kernel
theorem dX3_isSquare_43 : decode cX3_isSquare 43 = .ok (.iload_n 1, 1) := by decide +kernel
theorem dX3_isSquare_44 : decode cX3_isSquare 44 = .ok (.ifCond .lt 13, 3) := by decide +kernel
theorem dX3_isSquare_47 : decode cX3_isSquare 47 = .ok (.iload_n 1, 1) := by decide +kernel
theorem dX3_isSquare_48 : decode cX3_isSquare 48 = .ok (.bipush 16, 2) := by decide +kernel
theorem dX3_isSquare_50 : decode cX3_isSquare 50 = .ok (.if_icmp .ge 7, 3) := by decide +kernel
theorem dX3_isSquare_53 : decode cX3_isSquare 53 = .ok (.iconst 1, 1) := by decide +kernel
theorem dX3_isSquare_54 : decode cX3_isSquare 54 = .ok (.goto 4, 3) := by decide +kernel
theorem dX3_isSquare_57 : decode cX3_isSquare 57 = .ok (.iconst 0, 1) := by decide +kernel
theorem dX3_isSquare_58 : decode cX3_isSquare 58 = .ok (.istore 4, 2) := by decide +kernel
theorem dX3_isSquare_60 : decode cX3_isSquare 60 = .ok (.iload_n 3, 1) := by decide +kernel
theorem dX3_isSquare_61 : decode cX3_isSquare 61 = .ok (.ifCond .eq 24, 3) := by decide +kernel
theorem dX3_isSquare_64 : decode cX3_isSquare 64 = .ok (.iload 4, 2) := by decide +kernel
theorem dX3_isSquare_66 : decode cX3_isSquare 66 = .ok (.ifCond .eq 19, 3) := by decide +kernel
theorem dX3_isSquare_69 : decode cX3_isSquare 69 = .ok (.iload_n 0, 1) := by decide +kernel
theorem dX3_isSquare_70 : decode cX3_isSquare 70 = .ok (.iload_n 2, 1) := by decide +kernel
theorem dX3_isSquare_71 : decode cX3_isSquare 71 = .ok (.irem, 1) := by decide +kernel
theorem dX3_isSquare_72 : decode cX3_isSquare 72 = .ok (.ifCond .ne 13, 3) := by decide +kernel
theorem dX3_isSquare_75 : decode cX3_isSquare 75 = .ok (.iload_n 1, 1) := by decide +kernel
theorem dX3_isSquare_76 : decode cX3_isSquare 76 = .ok (.iload_n 2, 1) := by decide +kernel
theorem dX3_isSquare_77 : decode cX3_isSquare 77 = .ok (.irem, 1) := by decide +kernel
theorem dX3_isSquare_78 : decode cX3_isSquare 78 = .ok (.ifCond .ne 7, 3) := by decide +kernel
theorem dX3_isSquare_81 : decode cX3_isSquare 81 = .ok (.iconst 1, 1) := by decide +kernel
theorem dX3_isSquare_82 : decode cX3_isSquare 82 = .ok (.goto 4, 3) := by decide +kernel
theorem dX3_isSquare_85 : decode cX3_isSquare 85 = .ok (.iconst 0, 1) := by decide +kernel
theorem dX3_isSquare_86 : decode cX3_isSquare 86 = .ok (.ireturn, 1) := by decide +kernel
set_option maxRecDepth 20000 in
theorem ggX3_takeTaxes_X3_lossesOf : GoodIn wsX3_takeTaxes wsX3_lossesOf := goodIn_r _ [7, 2, 1, 8, 9, 10, 11, 12, 13, 14, 15, 16, 17, 18, 19, 20, 21, 6, 22, 65, 66, 67, 68, 69, 70, 71, 72, 73, 74, 75, 76, 77, 78, 79, 80, 81, 82, 83, 84, 85, 86, 87, 88] (by decide +kernel) (by decide +kernel)
set_option maxRecDepth 20000 in
theorem gX3_takeTaxes_X3_lossesOf : GoodIn wsX3_takeTaxes (wsV RX3 218 RX3 yX3_lossesOf wsX3_lossesOf) := goodIn_app (goodIn_of _ (by decide +kernel)) ggX3_takeTaxes_X3_lossesOf
set_option maxRecDepth 20000 in
theorem ggX3_takeTaxes_X3_losePlots : GoodIn wsX3_takeTaxes wsX3_losePlots := goodIn_r _ [26, 2, 1, 27, 28, 29, 11, 30, 13, 14, 31, 32, 33, 34, 35, 36, 37, 38, 39, 40, 41, 42, 43, 44, 45, 46, 47, 48, 49, 50, 51, 52, 18, 53, 54, 55, 6, 56, 57, 58, 59, 60, 65, 66, 67, 68, 69, 70, 71, 72, 73, 74, 75, 76, 77, 78, 79, 80, 81, 82, 83, 84, 85, 86, 87, 88] (by decide +kernel) (by decide +kernel)
set_option maxRecDepth 20000 in
theorem gX3_takeTaxes_X3_losePlots : GoodIn wsX3_takeTaxes (wsV RX3 264 RX3 yX3_losePlots wsX3_losePlots) := goodIn_app (goodIn_of _ (by decide +kernel)) ggX3_takeTaxes_X3_losePlots
set_option maxRecDepth 20000 in
theorem ggX3_takeTaxes_X2_countOf : GoodIn wsX3_takeTaxes wsX2_countOf := goodIn_r _ [12, 13, 14, 82, 83, 84, 85, 86, 87, 88] (by decide +kernel) (by decide +kernel)
set_option maxRecDepth 20000 in
theorem gX3_takeTaxes_X2_countOf : GoodIn wsX3_takeTaxes (wsV RX3 182 RX2 yX2_countOf wsX2_countOf) := goodIn_app (goodIn_of _ (by decide +kernel)) ggX3_takeTaxes_X2_countOf
set_option maxRecDepth 20000 in
theorem ggX3_takeTaxes_X1_pay : GoodIn wsX3_takeTaxes wsX1_pay := goodIn_r _ [64, 20, 21, 6, 22, 74, 75, 76, 77, 78, 79, 80, 81] (by decide +kernel) (by decide +kernel)
set_option maxRecDepth 20000 in
theorem gX3_takeTaxes_X1_pay : GoodIn wsX3_takeTaxes (wsV RX3 267 RX1 yX1_pay wsX1_pay) := goodIn_app (goodIn_of _ (by decide +kernel)) ggX3_takeTaxes_X1_pay
theorem dX3_takeTaxes_0 : decode cX3_takeTaxes 0 = .ok (.iconst 0, 1) := by decide +kernel
theorem dX3_takeTaxes_1 : decode cX3_takeTaxes 1 = .ok (.istore_n 1, 1) := by decide +kernel
theorem dX3_takeTaxes_2 : decode cX3_takeTaxes 2 = .ok (.iconst 1, 1) := by decide +kernel
theorem dX3_takeTaxes_3 : decode cX3_takeTaxes 3 = .ok (.istore_n 2, 1) := by decide +kernel
theorem dX3_takeTaxes_4 : decode cX3_takeTaxes 4 = .ok (.iload_n 2, 1) := by decide +kernel
theorem dX3_takeTaxes_5 : decode cX3_takeTaxes 5 = .ok (.bipush 8, 2) := by decide +kernel
theorem dX3_takeTaxes_7 : decode cX3_takeTaxes 7 = .ok (.if_icmp .ge 50, 3) := by decide +kernel
theorem dX3_takeTaxes_10 : decode cX3_takeTaxes 10 = .ok (.aload_n 0, 1) := by decide +kernel
theorem dX3_takeTaxes_11 : decode cX3_takeTaxes 11 = .ok (.iload_n 2, 1) := by decide +kernel
theorem dX3_takeTaxes_12 : decode cX3_takeTaxes 12 = .ok (.aload_n 0, 1) := by decide +kernel
theorem dX3_takeTaxes_13 : decode cX3_takeTaxes 13 = .ok (.iload_n 2, 1) := by decide +kernel
theorem dX3_takeTaxes_14 : decode cX3_takeTaxes 14 = .ok (.invokevirtual 218, 3) := by decide +kernel
theorem dX3_takeTaxes_17 : decode cX3_takeTaxes 17 = .ok (.invokevirtual 264, 3) := by decide +kernel
theorem dX3_takeTaxes_20 : decode cX3_takeTaxes 20 = .ok (.aload_n 0, 1) := by decide +kernel
theorem dX3_takeTaxes_21 : decode cX3_takeTaxes 21 = .ok (.getfield 20, 3) := by decide +kernel
theorem dX3_takeTaxes_24 : decode cX3_takeTaxes 24 = .ok (.getfield 124, 3) := by decide +kernel
theorem dX3_takeTaxes_27 : decode cX3_takeTaxes 27 = .ok (.aload_n 0, 1) := by decide +kernel
theorem dX3_takeTaxes_28 : decode cX3_takeTaxes 28 = .ok (.getfield 12, 3) := by decide +kernel
theorem dX3_takeTaxes_31 : decode cX3_takeTaxes 31 = .ok (.iload_n 2, 1) := by decide +kernel
theorem dX3_takeTaxes_32 : decode cX3_takeTaxes 32 = .ok (.invokevirtual 182, 3) := by decide +kernel
theorem dX3_takeTaxes_35 : decode cX3_takeTaxes 35 = .ok (.imul, 1) := by decide +kernel
theorem dX3_takeTaxes_36 : decode cX3_takeTaxes 36 = .ok (.istore_n 3, 1) := by decide +kernel
theorem dX3_takeTaxes_37 : decode cX3_takeTaxes 37 = .ok (.aload_n 0, 1) := by decide +kernel
theorem dX3_takeTaxes_38 : decode cX3_takeTaxes 38 = .ok (.getfield 20, 3) := by decide +kernel
theorem dX3_takeTaxes_41 : decode cX3_takeTaxes 41 = .ok (.iload_n 2, 1) := by decide +kernel
theorem dX3_takeTaxes_42 : decode cX3_takeTaxes 42 = .ok (.iconst 0, 1) := by decide +kernel
theorem dX3_takeTaxes_43 : decode cX3_takeTaxes 43 = .ok (.iload_n 3, 1) := by decide +kernel
theorem dX3_takeTaxes_44 : decode cX3_takeTaxes 44 = .ok (.invokevirtual 267, 3) := by decide +kernel
theorem dX3_takeTaxes_47 : decode cX3_takeTaxes 47 = .ok (.iload_n 1, 1) := by decide +kernel
theorem dX3_takeTaxes_48 : decode cX3_takeTaxes 48 = .ok (.iload_n 3, 1) := by decide +kernel
theorem dX3_takeTaxes_49 : decode cX3_takeTaxes 49 = .ok (.iadd, 1) := by decide +kernel
theorem dX3_takeTaxes_50 : decode cX3_takeTaxes 50 = .ok (.istore_n 1, 1) := by decide +kernel
theorem dX3_takeTaxes_51 : decode cX3_takeTaxes 51 = .ok (.iinc 2 1, 3) := by decide +kernel
theorem dX3_takeTaxes_54 : decode cX3_takeTaxes 54 = .ok (.goto (-50), 3) := by decide +kernel
theorem dX3_takeTaxes_57 : decode cX3_takeTaxes 57 = .ok (.iload_n 1, 1) := by decide +kernel
theorem dX3_takeTaxes_58 : decode cX3_takeTaxes 58 = .ok (.ireturn, 1) := by decide +kernel
set_option maxRecDepth 20000 in
theorem ggX3_lossesOf_X2_countOf : GoodIn wsX3_lossesOf wsX2_countOf := goodIn_r _ [7, 8, 9, 36, 37, 38, 39, 40, 41, 42] (by decide +kernel) (by decide +kernel)
set_option maxRecDepth 20000 in
theorem gX3_lossesOf_X2_countOf : GoodIn wsX3_lossesOf (wsV RX3 182 RX2 yX2_countOf wsX2_countOf) := goodIn_app (goodIn_of _ (by decide +kernel)) ggX3_lossesOf_X2_countOf
set_option maxRecDepth 20000 in
theorem ggX3_lossesOf_X1_purseOf : GoodIn wsX3_lossesOf wsX1_purseOf := goodIn_r _ [14, 15, 16, 17, 18, 28, 29, 30, 31, 32, 33, 34, 35] (by decide +kernel) (by decide +kernel)
set_option maxRecDepth 20000 in
theorem gX3_lossesOf_X1_purseOf : GoodIn wsX3_lossesOf (wsV RX3 203 RX1 yX1_purseOf wsX1_purseOf) := goodIn_app (goodIn_of _ (by decide +kernel)) ggX3_lossesOf_X1_purseOf
theorem dX3_lossesOf_0 : decode cX3_lossesOf 0 = .ok (.aload_n 0, 1) := by decide +kernel
theorem dX3_lossesOf_1 : decode cX3_lossesOf 1 = .ok (.getfield 12, 3) := by decide +kernel
theorem dX3_lossesOf_4 : decode cX3_lossesOf 4 = .ok (.iload_n 1, 1) := by decide +kernel
theorem dX3_lossesOf_5 : decode cX3_lossesOf 5 = .ok (.invokevirtual 182, 3) := by decide +kernel
theorem dX3_lossesOf_8 : decode cX3_lossesOf 8 = .ok (.istore_n 2, 1) := by decide +kernel
theorem dX3_lossesOf_9 : decode cX3_lossesOf 9 = .ok (.iload_n 2, 1) := by decide +kernel
theorem dX3_lossesOf_10 : decode cX3_lossesOf 10 = .ok (.istore_n 3, 1) := by decide +kernel
theorem dX3_lossesOf_11 : decode cX3_lossesOf 11 = .ok (.iload_n 3, 1) := by decide +kernel
theorem dX3_lossesOf_12 : decode cX3_lossesOf 12 = .ok (.ifCond .le 29, 3) := by decide +kernel
theorem dX3_lossesOf_15 : decode cX3_lossesOf 15 = .ok (.aload_n 0, 1) := by decide +kernel
theorem dX3_lossesOf_16 : decode cX3_lossesOf 16 = .ok (.getfield 20, 3) := by decide +kernel
theorem dX3_lossesOf_19 : decode cX3_lossesOf 19 = .ok (.iload_n 1, 1) := by decide +kernel
theorem dX3_lossesOf_20 : decode cX3_lossesOf 20 = .ok (.invokevirtual 203, 3) := by decide +kernel
theorem dX3_lossesOf_23 : decode cX3_lossesOf 23 = .ok (.aload_n 0, 1) := by decide +kernel
theorem dX3_lossesOf_24 : decode cX3_lossesOf 24 = .ok (.getfield 20, 3) := by decide +kernel
theorem dX3_lossesOf_27 : decode cX3_lossesOf 27 = .ok (.getfield 124, 3) := by decide +kernel
theorem dX3_lossesOf_30 : decode cX3_lossesOf 30 = .ok (.iload_n 3, 1) := by decide +kernel
theorem dX3_lossesOf_31 : decode cX3_lossesOf 31 = .ok (.imul, 1) := by decide +kernel
theorem dX3_lossesOf_32 : decode cX3_lossesOf 32 = .ok (.if_icmp .ge 9, 3) := by decide +kernel
theorem dX3_lossesOf_35 : decode cX3_lossesOf 35 = .ok (.iinc 3 (-1), 3) := by decide +kernel
theorem dX3_lossesOf_38 : decode cX3_lossesOf 38 = .ok (.goto (-27), 3) := by decide +kernel
theorem dX3_lossesOf_41 : decode cX3_lossesOf 41 = .ok (.iload_n 2, 1) := by decide +kernel
theorem dX3_lossesOf_42 : decode cX3_lossesOf 42 = .ok (.iload_n 3, 1) := by decide +kernel
theorem dX3_lossesOf_43 : decode cX3_lossesOf 43 = .ok (.isub, 1) := by decide +kernel
theorem dX3_lossesOf_44 : decode cX3_lossesOf 44 = .ok (.ireturn, 1) := by decide +kernel
set_option maxRecDepth 20000 in
theorem ggX3_losePlots_X2_lastSmallest : GoodIn wsX3_losePlots wsX2_lastSmallest := goodIn_r _ [7, 8, 9, 10, 59, 60, 61, 62, 63, 64, 65] (by decide +kernel) (by decide +kernel)
set_option maxRecDepth 20000 in
theorem gX3_losePlots_X2_lastSmallest : GoodIn wsX3_losePlots (wsV RX3 200 RX2 yX2_lastSmallest wsX2_lastSmallest) := goodIn_app (goodIn_of _ (by decide +kernel)) ggX3_losePlots_X2_lastSmallest
set_option maxRecDepth 20000 in
theorem ggX3_losePlots_X2_cornerX : GoodIn wsX3_losePlots wsX2_cornerX := goodIn_r _ [14, 15, 16, 17, 18, 6, 19, 8, 59, 60, 61, 62, 63, 64, 65] (by decide +kernel) (by decide +kernel)
set_option maxRecDepth 20000 in
theorem gX3_losePlots_X2_cornerX : GoodIn wsX3_losePlots (wsV RX3 97 RX2 yX2_cornerX wsX2_cornerX) := goodIn_app (goodIn_of _ (by decide +kernel)) ggX3_losePlots_X2_cornerX
set_option maxRecDepth 20000 in
theorem ggX3_losePlots_X2_cornerY : GoodIn wsX3_losePlots wsX2_cornerY := goodIn_r _ [23, 24, 16, 17, 18, 6, 19, 8, 59, 60, 61, 62, 63, 64, 65] (by decide +kernel) (by decide +kernel)
set_option maxRecDepth 20000 in
theorem gX3_losePlots_X2_cornerY : GoodIn wsX3_losePlots (wsV RX3 100 RX2 yX2_cornerY wsX2_cornerY) := goodIn_app (goodIn_of _ (by decide +kernel)) ggX3_losePlots_X2_cornerY
set_option maxRecDepth 20000 in
theorem ggX3_losePlots_X2_sizeOf : GoodIn wsX3_losePlots wsX2_sizeOf := goodIn_r _ [28, 10, 16, 17, 18, 6, 19, 8, 59, 60, 61, 62, 63, 64, 65] (by decide +kernel) (by decide +kernel)
set_option maxRecDepth 20000 in
theorem gX3_losePlots_X2_sizeOf : GoodIn wsX3_losePlots (wsV RX3 103 RX2 yX2_sizeOf wsX2_sizeOf) := goodIn_app (goodIn_of _ (by decide +kernel)) ggX3_losePlots_X2_sizeOf
set_option maxRecDepth 20000 in
theorem ggX3_losePlots_X1_give : GoodIn wsX3_losePlots wsX1_give := goodIn_r _ [33, 34, 35, 36, 37, 51, 52, 53, 54, 55, 56, 57, 58] (by decide +kernel) (by decide +kernel)
set_option maxRecDepth 20000 in
theorem gX3_losePlots_X1_give : GoodIn wsX3_losePlots (wsV RX3 66 RX1 yX1_give wsX1_give) := goodIn_app (goodIn_of _ (by decide +kernel)) ggX3_losePlots_X1_give
set_option maxRecDepth 20000 in
theorem ggX3_losePlots_X2_markCommon : GoodIn wsX3_losePlots wsX2_markCommon := goodIn_r _ [41, 9, 16, 17, 18, 6, 19, 8, 59, 60, 61, 62, 63, 64, 65] (by decide +kernel) (by decide +kernel)
set_option maxRecDepth 20000 in
theorem gX3_losePlots_X2_markCommon : GoodIn wsX3_losePlots (wsV RX3 270 RX2 yX2_markCommon wsX2_markCommon) := goodIn_app (goodIn_of _ (by decide +kernel)) ggX3_losePlots_X2_markCommon
theorem dX3_losePlots_0 : decode cX3_losePlots 0 = .ok (.iconst 0, 1) := by decide +kernel
theorem dX3_losePlots_1 : decode cX3_losePlots 1 = .ok (.istore_n 3, 1) := by decide +kernel
theorem dX3_losePlots_2 : decode cX3_losePlots 2 = .ok (.iload_n 3, 1) := by decide +kernel
theorem dX3_losePlots_3 : decode cX3_losePlots 3 = .ok (.iload_n 2, 1) := by decide +kernel
theorem dX3_losePlots_4 : decode cX3_losePlots 4 = .ok (.if_icmp .ge 77, 3) := by decide +kernel
theorem dX3_losePlots_7 : decode cX3_losePlots 7 = .ok (.aload_n 0, 1) := by decide +kernel
theorem dX3_losePlots_8 : decode cX3_losePlots 8 = .ok (.getfield 12, 3) := by decide +kernel
theorem dX3_losePlots_11 : decode cX3_losePlots 11 = .ok (.iload_n 1, 1) := by decide +kernel
theorem dX3_losePlots_12 : decode cX3_losePlots 12 = .ok (.invokevirtual 200, 3) := by decide +kernel
theorem dX3_losePlots_15 : decode cX3_losePlots 15 = .ok (.istore 4, 2) := by decide +kernel
theorem dX3_losePlots_17 : decode cX3_losePlots 17 = .ok (.aload_n 0, 1) := by decide +kernel
theorem dX3_losePlots_18 : decode cX3_losePlots 18 = .ok (.getfield 20, 3) := by decide +kernel
theorem dX3_losePlots_21 : decode cX3_losePlots 21 = .ok (.aload_n 0, 1) := by decide +kernel
theorem dX3_losePlots_22 : decode cX3_losePlots 22 = .ok (.getfield 12, 3) := by decide +kernel
theorem dX3_losePlots_25 : decode cX3_losePlots 25 = .ok (.iload 4, 2) := by decide +kernel
theorem dX3_losePlots_27 : decode cX3_losePlots 27 = .ok (.invokevirtual 97, 3) := by decide +kernel
theorem dX3_losePlots_30 : decode cX3_losePlots 30 = .ok (.aload_n 0, 1) := by decide +kernel
theorem dX3_losePlots_31 : decode cX3_losePlots 31 = .ok (.getfield 12, 3) := by decide +kernel
theorem dX3_losePlots_34 : decode cX3_losePlots 34 = .ok (.iload 4, 2) := by decide +kernel
theorem dX3_losePlots_36 : decode cX3_losePlots 36 = .ok (.invokevirtual 100, 3) := by decide +kernel
theorem dX3_losePlots_39 : decode cX3_losePlots 39 = .ok (.aload_n 0, 1) := by decide +kernel
theorem dX3_losePlots_40 : decode cX3_losePlots 40 = .ok (.getfield 12, 3) := by decide +kernel
theorem dX3_losePlots_43 : decode cX3_losePlots 43 = .ok (.iload 4, 2) := by decide +kernel
theorem dX3_losePlots_45 : decode cX3_losePlots 45 = .ok (.invokevirtual 103, 3) := by decide +kernel
theorem dX3_losePlots_48 : decode cX3_losePlots 48 = .ok (.iconst 0, 1) := by decide +kernel
theorem dX3_losePlots_49 : decode cX3_losePlots 49 = .ok (.invokevirtual 66, 3) := by decide +kernel
theorem dX3_losePlots_52 : decode cX3_losePlots 52 = .ok (.pop, 1) := by decide +kernel
theorem dX3_losePlots_53 : decode cX3_losePlots 53 = .ok (.aload_n 0, 1) := by decide +kernel
theorem dX3_losePlots_54 : decode cX3_losePlots 54 = .ok (.getfield 12, 3) := by decide +kernel
theorem dX3_losePlots_57 : decode cX3_losePlots 57 = .ok (.iload 4, 2) := by decide +kernel
theorem dX3_losePlots_59 : decode cX3_losePlots 59 = .ok (.invokevirtual 270, 3) := by decide +kernel
theorem dX3_losePlots_62 : decode cX3_losePlots 62 = .ok (.aload_n 0, 1) := by decide +kernel
theorem dX3_losePlots_63 : decode cX3_losePlots 63 = .ok (.getfield 20, 3) := by decide +kernel
theorem dX3_losePlots_66 : decode cX3_losePlots 66 = .ok (.dup, 1) := by decide +kernel
theorem dX3_losePlots_67 : decode cX3_losePlots 67 = .ok (.getfield 212, 3) := by decide +kernel
theorem dX3_losePlots_70 : decode cX3_losePlots 70 = .ok (.iconst 1, 1) := by decide +kernel
theorem dX3_losePlots_71 : decode cX3_losePlots 71 = .ok (.iadd, 1) := by decide +kernel
theorem dX3_losePlots_72 : decode cX3_losePlots 72 = .ok (.putfield 212, 3) := by decide +kernel
theorem dX3_losePlots_75 : decode cX3_losePlots 75 = .ok (.iinc 3 1, 3) := by decide +kernel
theorem dX3_losePlots_78 : decode cX3_losePlots 78 = .ok (.goto (-76), 3) := by decide +kernel
theorem dX3_losePlots_81 : decode cX3_losePlots 81 = .ok (.return_, 1) := by decide +kernel
set_option maxRecDepth 20000 in
theorem ggX3_readBuffer_X0_begin : GoodIn wsX3_readBuffer wsX0_begin := goodIn_r _ [8, 9, 65, 66, 67, 68, 69, 70, 71] (by decide +kernel) (by decide +kernel)
set_option maxRecDepth 20000 in
theorem gX3_readBuffer_X0_begin : GoodIn wsX3_readBuffer (wsV RX3 273 RX0 yX0_begin wsX0_begin) := goodIn_app (goodIn_of _ (by decide +kernel)) ggX3_readBuffer_X0_begin
set_option maxRecDepth 20000 in
theorem ggX3_readBuffer_X0_accept : GoodIn wsX3_readBuffer wsX0_accept := goodIn_r _ [13, 9, 14, 15, 16, 7, 17, 18, 19, 20, 21, 22, 23, 24, 25, 26, 27, 28, 29, 30, 31, 32, 33, 34, 35, 36, 37, 38, 39, 40, 41, 42, 43, 44, 45, 46, 47, 48, 49, 50, 51, 52, 53, 54, 55, 65, 66, 67, 68, 69, 70, 71] (by decide +kernel) (by decide +kernel)
set_option maxRecDepth 20000 in
theorem gX3_readBuffer_X0_accept : GoodIn wsX3_readBuffer (wsV RX3 276 RX0 yX0_accept wsX0_accept) := goodIn_app (goodIn_of _ (by decide +kernel)) ggX3_readBuffer_X0_accept
theorem dX3_readBuffer_0 : decode cX3_readBuffer 0 = .ok (.aload_n 0, 1) := by decide +kernel
theorem dX3_readBuffer_1 : decode cX3_readBuffer 1 = .ok (.getfield 47, 3) := by decide +kernel
theorem dX3_readBuffer_4 : decode cX3_readBuffer 4 = .ok (.invokevirtual 273, 3) := by decide +kernel
theorem dX3_readBuffer_7 : decode cX3_readBuffer 7 = .ok (.iconst 0, 1) := by decide +kernel
theorem dX3_readBuffer_8 : decode cX3_readBuffer 8 = .ok (.istore_n 1, 1) := by decide +kernel
theorem dX3_readBuffer_9 : decode cX3_readBuffer 9 = .ok (.iload_n 1, 1) := by decide +kernel
theorem dX3_readBuffer_10 : decode cX3_readBuffer 10 = .ok (.aload_n 0, 1) := by decide +kernel
theorem dX3_readBuffer_11 : decode cX3_readBuffer 11 = .ok (.getfield 41, 3) := by decide +kernel
theorem dX3_readBuffer_14 : decode cX3_readBuffer 14 = .ok (.if_icmp .ge 33, 3) := by decide +kernel
theorem dX3_readBuffer_17 : decode cX3_readBuffer 17 = .ok (.iload_n 1, 1) := by decide +kernel
theorem dX3_readBuffer_18 : decode cX3_readBuffer 18 = .ok (.bipush 60, 2) := by decide +kernel
theorem dX3_readBuffer_20 : decode cX3_readBuffer 20 = .ok (.if_icmp .ge 27, 3) := by decide +kernel
theorem dX3_readBuffer_23 : decode cX3_readBuffer 23 = .ok (.aload_n 0, 1) := by decide +kernel
theorem dX3_readBuffer_24 : decode cX3_readBuffer 24 = .ok (.getfield 47, 3) := by decide +kernel
theorem dX3_readBuffer_27 : decode cX3_readBuffer 27 = .ok (.aload_n 0, 1) := by decide +kernel
theorem dX3_readBuffer_28 : decode cX3_readBuffer 28 = .ok (.getfield 37, 3) := by decide +kernel
theorem dX3_readBuffer_31 : decode cX3_readBuffer 31 = .ok (.iload_n 1, 1) := by decide +kernel
theorem dX3_readBuffer_32 : decode cX3_readBuffer 32 = .ok (.caload, 1) := by decide +kernel
theorem dX3_readBuffer_33 : decode cX3_readBuffer 33 = .ok (.invokevirtual 276, 3) := by decide +kernel
theorem dX3_readBuffer_36 : decode cX3_readBuffer 36 = .ok (.ifCond .ne 5, 3) := by decide +kernel
theorem dX3_readBuffer_39 : decode cX3_readBuffer 39 = .ok (.iload_n 1, 1) := by decide +kernel
theorem dX3_readBuffer_40 : decode cX3_readBuffer 40 = .ok (.ireturn, 1) := by decide +kernel
theorem dX3_readBuffer_41 : decode cX3_readBuffer 41 = .ok (.iinc 1 1, 3) := by decide +kernel
theorem dX3_readBuffer_44 : decode cX3_readBuffer 44 = .ok (.goto (-35), 3) := by decide +kernel
theorem dX3_readBuffer_47 : decode cX3_readBuffer 47 = .ok (.aload_n 0, 1) := by decide +kernel
theorem dX3_readBuffer_48 : decode cX3_readBuffer 48 = .ok (.getfield 41, 3) := by decide +kernel
theorem dX3_readBuffer_51 : decode cX3_readBuffer 51 = .ok (.ireturn, 1) := by decide +kernel
set_option maxRecDepth 20000 in
theorem ggX3_obeyBuffer_X0_begin : GoodIn wsX3_obeyBuffer wsX0_begin := goodIn_r _ [9, 10, 230, 231, 232, 233, 234, 235, 236] (by decide +kernel) (by decide +kernel)
set_option maxRecDepth 20000 in
theorem gX3_obeyBuffer_X0_begin : GoodIn wsX3_obeyBuffer (wsV RX3 273 RX0 yX0_begin wsX0_begin) := goodIn_app (goodIn_of _ (by decide +kernel)) ggX3_obeyBuffer_X0_begin
set_option maxRecDepth 20000 in
theorem ggX3_obeyBuffer_X0_accept : GoodIn wsX3_obeyBuffer wsX0_accept := goodIn_r _ [14, 10, 15, 16, 17, 8, 18, 19, 20, 21, 22, 23, 24, 25, 26, 27, 28, 29, 30, 31, 32, 33, 34, 35, 36, 37, 38, 39, 40, 41, 42, 43, 44, 45, 46, 47, 48, 49, 50, 51, 52, 53, 54, 55, 56, 230, 231, 232, 233, 234, 235, 236] (by decide +kernel) (by decide +kernel)
set_option maxRecDepth 20000 in
theorem gX3_obeyBuffer_X0_accept : GoodIn wsX3_obeyBuffer (wsV RX3 276 RX0 yX0_accept wsX0_accept) := goodIn_app (goodIn_of _ (by decide +kernel)) ggX3_obeyBuffer_X0_accept
set_option maxRecDepth 20000 in
theorem ggX3_obeyBuffer_X0_isAtDeedEnd : GoodIn wsX3_obeyBuffer wsX0_isAtDeedEnd := goodIn_r _ [60, 10, 230, 231, 232, 233, 234, 235, 236] (by decide +kernel) (by decide +kernel)
set_option maxRecDepth 20000 in
theorem gX3_obeyBuffer_X0_isAtDeedEnd : GoodIn wsX3_obeyBuffer (wsV RX3 137 RX0 yX0_isAtDeedEnd wsX0_isAtDeedEnd) := goodIn_app (goodIn_of _ (by decide +kernel)) ggX3_obeyBuffer_X0_isAtDeedEnd
set_option maxRecDepth 20000 in
theorem ggX3_obeyBuffer_X3_obeyDeed : GoodIn wsX3_obeyBuffer wsX3_obeyDeed := goodIn_r _ [65, 1, 4, 66, 67, 68, 69, 64, 70, 71, 72, 73, 74, 75, 76, 77, 78, 79, 80, 81, 82, 8, 83, 48, 24, 84, 85, 86, 87, 88, 89, 90, 91, 92, 93, 94, 95, 96, 97, 98, 99, 100, 101, 102, 103, 104, 105, 106, 107, 108, 109, 110, 111, 112, 113, 114, 115, 116, 117, 118, 119, 120, 121, 122, 123, 124, 125, 126, 127, 128, 129, 130, 131, 132, 133, 134, 135, 136, 137, 138, 139, 140, 141, 142, 143, 144, 145, 146, 147, 148, 149, 150, 151, 152, 153, 154, 155, 156, 157, 158, 159, 160, 161, 162, 163, 164, 165, 166, 167, 168, 169, 170, 171, 172, 173, 174, 175, 176, 177, 178, 179, 180, 181, 182, 183, 184, 185, 186, 187, 188, 189, 190, 191, 192, 193, 194, 195, 196, 197, 221, 222, 223, 224, 225, 226, 227, 228, 229, 230, 231, 232, 233, 234, 235, 236, 237, 238, 239, 240, 241, 242, 243, 244, 245, 246, 247, 248, 249, 250, 251] (by decide +kernel) (by decide +kernel)
set_option maxRecDepth 20000 in
theorem gX3_obeyBuffer_X3_obeyDeed : GoodIn wsX3_obeyBuffer (wsV RX3 280 RX3 yX3_obeyDeed wsX3_obeyDeed) := goodIn_app (goodIn_of _ (by decide +kernel)) ggX3_obeyBuffer_X3_obeyDeed
set_option maxRecDepth 20000 in
theorem ggX3_obeyBuffer_X2_measure : GoodIn wsX3_obeyBuffer wsX2_measure := goodIn_r _ [201, 105, 121, 202, 203, 204, 205, 206, 207, 103, 208, 209, 101, 102, 104, 106, 64, 107, 210, 211, 212, 213, 214, 215, 137, 138, 77, 139, 79, 72, 73, 216, 217, 218, 219, 183, 116, 126, 131, 220, 141, 142, 143, 245, 246, 247, 248, 249, 250, 251, 237, 238, 239, 240, 241, 242, 243, 244] (by decide +kernel) (by decide +kernel)
set_option maxRecDepth 20000 in
theorem gX3_obeyBuffer_X2_measure : GoodIn wsX3_obeyBuffer (wsV RX3 70 RX2 yX2_measure wsX2_measure) := goodIn_app (goodIn_of _ (by decide +kernel)) ggX3_obeyBuffer_X2_measure
theorem dX3_obeyBuffer_0 : decode cX3_obeyBuffer 0 = .ok (.iconst 0, 1) := by decide +kernel
theorem dX3_obeyBuffer_1 : decode cX3_obeyBuffer 1 = .ok (.istore_n 1, 1) := by decide +kernel
theorem dX3_obeyBuffer_2 : decode cX3_obeyBuffer 2 = .ok (.aload_n 0, 1) := by decide +kernel
theorem dX3_obeyBuffer_3 : decode cX3_obeyBuffer 3 = .ok (.getfield 47, 3) := by decide +kernel
theorem dX3_obeyBuffer_6 : decode cX3_obeyBuffer 6 = .ok (.invokevirtual 273, 3) := by decide +kernel
theorem dX3_obeyBuffer_9 : decode cX3_obeyBuffer 9 = .ok (.iconst 0, 1) := by decide +kernel
theorem dX3_obeyBuffer_10 : decode cX3_obeyBuffer 10 = .ok (.istore_n 2, 1) := by decide +kernel
theorem dX3_obeyBuffer_11 : decode cX3_obeyBuffer 11 = .ok (.iload_n 2, 1) := by decide +kernel
theorem dX3_obeyBuffer_12 : decode cX3_obeyBuffer 12 = .ok (.aload_n 0, 1) := by decide +kernel
theorem dX3_obeyBuffer_13 : decode cX3_obeyBuffer 13 = .ok (.getfield 41, 3) := by decide +kernel
theorem dX3_obeyBuffer_16 : decode cX3_obeyBuffer 16 = .ok (.if_icmp .ge 58, 3) := by decide +kernel
theorem dX3_obeyBuffer_19 : decode cX3_obeyBuffer 19 = .ok (.iload_n 2, 1) := by decide +kernel
theorem dX3_obeyBuffer_20 : decode cX3_obeyBuffer 20 = .ok (.bipush 60, 2) := by decide +kernel
theorem dX3_obeyBuffer_22 : decode cX3_obeyBuffer 22 = .ok (.if_icmp .ge 52, 3) := by decide +kernel
theorem dX3_obeyBuffer_25 : decode cX3_obeyBuffer 25 = .ok (.aload_n 0, 1) := by decide +kernel
theorem dX3_obeyBuffer_26 : decode cX3_obeyBuffer 26 = .ok (.getfield 47, 3) := by decide +kernel
theorem dX3_obeyBuffer_29 : decode cX3_obeyBuffer 29 = .ok (.aload_n 0, 1) := by decide +kernel
theorem dX3_obeyBuffer_30 : decode cX3_obeyBuffer 30 = .ok (.getfield 37, 3) := by decide +kernel
theorem dX3_obeyBuffer_33 : decode cX3_obeyBuffer 33 = .ok (.iload_n 2, 1) := by decide +kernel
theorem dX3_obeyBuffer_34 : decode cX3_obeyBuffer 34 = .ok (.caload, 1) := by decide +kernel
theorem dX3_obeyBuffer_35 : decode cX3_obeyBuffer 35 = .ok (.invokevirtual 276, 3) := by decide +kernel
theorem dX3_obeyBuffer_38 : decode cX3_obeyBuffer 38 = .ok (.pop, 1) := by decide +kernel
theorem dX3_obeyBuffer_39 : decode cX3_obeyBuffer 39 = .ok (.aload_n 0, 1) := by decide +kernel
theorem dX3_obeyBuffer_40 : decode cX3_obeyBuffer 40 = .ok (.getfield 47, 3) := by decide +kernel
theorem dX3_obeyBuffer_43 : decode cX3_obeyBuffer 43 = .ok (.invokevirtual 137, 3) := by decide +kernel
theorem dX3_obeyBuffer_46 : decode cX3_obeyBuffer 46 = .ok (.ifCond .eq 22, 3) := by decide +kernel
theorem dX3_obeyBuffer_49 : decode cX3_obeyBuffer 49 = .ok (.aload_n 0, 1) := by decide +kernel
theorem dX3_obeyBuffer_50 : decode cX3_obeyBuffer 50 = .ok (.invokevirtual 280, 3) := by decide +kernel
theorem dX3_obeyBuffer_53 : decode cX3_obeyBuffer 53 = .ok (.ifCond .ne 5, 3) := by decide +kernel
theorem dX3_obeyBuffer_56 : decode cX3_obeyBuffer 56 = .ok (.iload_n 1, 1) := by decide +kernel
theorem dX3_obeyBuffer_57 : decode cX3_obeyBuffer 57 = .ok (.ireturn, 1) := by decide +kernel
theorem dX3_obeyBuffer_58 : decode cX3_obeyBuffer 58 = .ok (.aload_n 0, 1) := by decide +kernel
theorem dX3_obeyBuffer_59 : decode cX3_obeyBuffer 59 = .ok (.getfield 12, 3) := by decide +kernel
theorem dX3_obeyBuffer_62 : decode cX3_obeyBuffer 62 = .ok (.invokevirtual 70, 3) := by decide +kernel
theorem dX3_obeyBuffer_65 : decode cX3_obeyBuffer 65 = .ok (.iinc 1 1, 3) := by decide +kernel
theorem dX3_obeyBuffer_68 : decode cX3_obeyBuffer 68 = .ok (.iinc 2 1, 3) := by decide +kernel
theorem dX3_obeyBuffer_71 : decode cX3_obeyBuffer 71 = .ok (.goto (-60), 3) := by decide +kernel
theorem dX3_obeyBuffer_74 : decode cX3_obeyBuffer 74 = .ok (.iload_n 1, 1) := by decide +kernel
theorem dX3_obeyBuffer_75 : decode cX3_obeyBuffer 75 = .ok (.ireturn, 1) := by decide +kernel
set_option maxRecDepth 20000 in
theorem ggX3_obeyDeed_X3_obeyGrant : GoodIn wsX3_obeyDeed wsX3_obeyGrant := goodIn_r _ [8, 3, 9, 10, 7, 11, 12, 13, 14, 15, 16, 17, 139, 140, 141, 142, 143, 144, 145, 146, 147, 155, 156, 157, 158, 159, 160, 161, 162] (by decide +kernel) (by decide +kernel)
set_option maxRecDepth 20000 in
theorem gX3_obeyDeed_X3_obeyGrant : GoodIn wsX3_obeyDeed (wsV RX3 299 RX3 yX3_obeyGrant wsX3_obeyGrant) := goodIn_app (goodIn_of _ (by decide +kernel)) ggX3_obeyDeed_X3_obeyGrant
set_option maxRecDepth 20000 in
theorem ggX3_obeyDeed_X0_signedNumber : GoodIn wsX3_obeyDeed wsX0_signedNumber := goodIn_r _ [22, 23, 24, 148, 149, 150, 151, 152, 153, 154] (by decide +kernel) (by decide +kernel)
set_option maxRecDepth 20000 in
theorem gX3_obeyDeed_X0_signedNumber : GoodIn wsX3_obeyDeed (wsV RX3 302 RX0 yX0_signedNumber wsX0_signedNumber) := goodIn_app (goodIn_of _ (by decide +kernel)) ggX3_obeyDeed_X0_signedNumber
set_option maxRecDepth 20000 in
theorem ggX3_obeyDeed_X3_obeyRaise : GoodIn wsX3_obeyDeed wsX3_obeyRaise := goodIn_r _ [28, 3, 9, 10, 7, 11, 29, 30, 31, 15, 32, 33, 34, 35, 36, 37, 38, 39, 40, 139, 140, 141, 142, 143, 144, 145, 146, 147, 155, 156, 157, 158, 159, 160, 161, 162] (by decide +kernel) (by decide +kernel)
set_option maxRecDepth 20000 in
theorem gX3_obeyDeed_X3_obeyRaise : GoodIn wsX3_obeyDeed (wsV RX3 305 RX3 yX3_obeyRaise wsX3_obeyRaise) := goodIn_app (goodIn_of _ (by decide +kernel)) ggX3_obeyDeed_X3_obeyRaise
set_option maxRecDepth 20000 in
theorem ggX3_obeyDeed_X2_rankAt : GoodIn wsX3_obeyDeed wsX2_rankAt := goodIn_r _ [45, 46, 47, 7, 48, 163, 164, 165, 166, 167, 168, 169] (by decide +kernel) (by decide +kernel)
set_option maxRecDepth 20000 in
theorem gX3_obeyDeed_X2_rankAt : GoodIn wsX3_obeyDeed (wsV RX3 93 RX2 yX2_rankAt wsX2_rankAt) := goodIn_app (goodIn_of _ (by decide +kernel)) ggX3_obeyDeed_X2_rankAt
set_option maxRecDepth 20000 in
theorem ggX3_obeyDeed_X3_obeySale : GoodIn wsX3_obeyDeed wsX3_obeySale := goodIn_r _ [52, 2, 3, 53, 54, 55, 44, 56, 57, 58, 59, 60, 61, 62, 63, 64, 65, 66, 67, 68, 69, 70, 71, 72, 73, 74, 75, 15, 76, 77, 78, 79, 80, 17, 10, 7, 11, 81, 82, 83, 84, 47, 48, 85, 86, 87, 88, 89, 90, 91, 92, 93, 94, 95, 96, 97, 98, 99, 100, 101, 102, 103, 104, 105, 106, 13, 14, 16, 139, 140, 141, 142, 143, 144, 145, 146, 147, 163, 164, 165, 166, 167, 168, 169, 155, 156, 157, 158, 159, 160, 161, 162] (by decide +kernel) (by decide +kernel)
set_option maxRecDepth 20000 in
theorem gX3_obeyDeed_X3_obeySale : GoodIn wsX3_obeyDeed (wsV RX3 308 RX3 yX3_obeySale wsX3_obeySale) := goodIn_app (goodIn_of _ (by decide +kernel)) ggX3_obeyDeed_X3_obeySale
set_option maxRecDepth 20000 in
theorem ggX3_obeyDeed_X1_drown : GoodIn wsX3_obeyDeed wsX1_drown := goodIn_r _ [110, 33, 17, 111, 155, 156, 157, 158, 159, 160, 161, 162] (by decide +kernel) (by decide +kernel)
set_option maxRecDepth 20000 in
theorem gX3_obeyDeed_X1_drown : GoodIn wsX3_obeyDeed (wsV RX3 86 RX1 yX1_drown wsX1_drown) := goodIn_app (goodIn_of _ (by decide +kernel)) ggX3_obeyDeed_X1_drown
set_option maxRecDepth 20000 in
theorem ggX3_obeyDeed_X3_takeTaxes : GoodIn wsX3_obeyDeed wsX3_takeTaxes := goodIn_r _ [115, 3, 2, 116, 117, 118, 7, 119, 120, 121, 122, 44, 123, 62, 124, 125, 86, 87, 15, 88, 89, 90, 91, 126, 127, 128, 129, 130, 131, 132, 133, 72, 53, 54, 55, 56, 57, 58, 59, 60, 61, 63, 64, 65, 66, 67, 68, 69, 70, 71, 12, 13, 14, 16, 17, 10, 11, 134, 135, 136, 137, 138, 103, 104, 105, 139, 140, 141, 142, 143, 144, 145, 146, 147, 155, 156, 157, 158, 159, 160, 161, 162, 163, 164, 165, 166, 167, 168, 169] (by decide +kernel) (by decide +kernel)
set_option maxRecDepth 20000 in
theorem gX3_obeyDeed_X3_takeTaxes : GoodIn wsX3_obeyDeed (wsV RX3 113 RX3 yX3_takeTaxes wsX3_takeTaxes) := goodIn_app (goodIn_of _ (by decide +kernel)) ggX3_obeyDeed_X3_takeTaxes
theorem dX3_obeyDeed_0 : decode cX3_obeyDeed 0 = .ok (.aload_n 0, 1) := by decide +kernel
theorem dX3_obeyDeed_1 : decode cX3_obeyDeed 1 = .ok (.getfield 47, 3) := by decide +kernel
theorem dX3_obeyDeed_4 : decode cX3_obeyDeed 4 = .ok (.getfield 283, 3) := by decide +kernel
theorem dX3_obeyDeed_7 : decode cX3_obeyDeed 7 = .ok (.istore_n 1, 1) := by decide +kernel
theorem dX3_obeyDeed_8 : decode cX3_obeyDeed 8 = .ok (.iload_n 1, 1) := by decide +kernel
theorem dX3_obeyDeed_9 : decode cX3_obeyDeed 9 = .ok (.bipush 103, 2) := by decide +kernel
theorem dX3_obeyDeed_11 : decode cX3_obeyDeed 11 = .ok (.if_icmp .ne 36, 3) := by decide +kernel
theorem dX3_obeyDeed_14 : decode cX3_obeyDeed 14 = .ok (.aload_n 0, 1) := by decide +kernel
theorem dX3_obeyDeed_15 : decode cX3_obeyDeed 15 = .ok (.aload_n 0, 1) := by decide +kernel
theorem dX3_obeyDeed_16 : decode cX3_obeyDeed 16 = .ok (.getfield 47, 3) := by decide +kernel
theorem dX3_obeyDeed_19 : decode cX3_obeyDeed 19 = .ok (.getfield 287, 3) := by decide +kernel
theorem dX3_obeyDeed_22 : decode cX3_obeyDeed 22 = .ok (.aload_n 0, 1) := by decide +kernel
theorem dX3_obeyDeed_23 : decode cX3_obeyDeed 23 = .ok (.getfield 47, 3) := by decide +kernel
theorem dX3_obeyDeed_26 : decode cX3_obeyDeed 26 = .ok (.getfield 290, 3) := by decide +kernel
theorem dX3_obeyDeed_29 : decode cX3_obeyDeed 29 = .ok (.aload_n 0, 1) := by decide +kernel
theorem dX3_obeyDeed_30 : decode cX3_obeyDeed 30 = .ok (.getfield 47, 3) := by decide +kernel
theorem dX3_obeyDeed_33 : decode cX3_obeyDeed 33 = .ok (.getfield 293, 3) := by decide +kernel
theorem dX3_obeyDeed_36 : decode cX3_obeyDeed 36 = .ok (.aload_n 0, 1) := by decide +kernel
theorem dX3_obeyDeed_37 : decode cX3_obeyDeed 37 = .ok (.getfield 47, 3) := by decide +kernel
theorem dX3_obeyDeed_40 : decode cX3_obeyDeed 40 = .ok (.getfield 296, 3) := by decide +kernel
theorem dX3_obeyDeed_43 : decode cX3_obeyDeed 43 = .ok (.invokevirtual 299, 3) := by decide +kernel
theorem dX3_obeyDeed_46 : decode cX3_obeyDeed 46 = .ok (.ireturn, 1) := by decide +kernel
theorem dX3_obeyDeed_47 : decode cX3_obeyDeed 47 = .ok (.iload_n 1, 1) := by decide +kernel
theorem dX3_obeyDeed_48 : decode cX3_obeyDeed 48 = .ok (.bipush 114, 2) := by decide +kernel
theorem dX3_obeyDeed_50 : decode cX3_obeyDeed 50 = .ok (.if_icmp .ne 36, 3) := by decide +kernel
theorem dX3_obeyDeed_53 : decode cX3_obeyDeed 53 = .ok (.aload_n 0, 1) := by decide +kernel
theorem dX3_obeyDeed_54 : decode cX3_obeyDeed 54 = .ok (.aload_n 0, 1) := by decide +kernel
theorem dX3_obeyDeed_55 : decode cX3_obeyDeed 55 = .ok (.getfield 47, 3) := by decide +kernel
theorem dX3_obeyDeed_58 : decode cX3_obeyDeed 58 = .ok (.getfield 287, 3) := by decide +kernel
theorem dX3_obeyDeed_61 : decode cX3_obeyDeed 61 = .ok (.aload_n 0, 1) := by decide +kernel
theorem dX3_obeyDeed_62 : decode cX3_obeyDeed 62 = .ok (.getfield 47, 3) := by decide +kernel
theorem dX3_obeyDeed_65 : decode cX3_obeyDeed 65 = .ok (.getfield 290, 3) := by decide +kernel
theorem dX3_obeyDeed_68 : decode cX3_obeyDeed 68 = .ok (.aload_n 0, 1) := by decide +kernel
theorem dX3_obeyDeed_69 : decode cX3_obeyDeed 69 = .ok (.getfield 47, 3) := by decide +kernel
theorem dX3_obeyDeed_72 : decode cX3_obeyDeed 72 = .ok (.getfield 293, 3) := by decide +kernel
theorem dX3_obeyDeed_75 : decode cX3_obeyDeed 75 = .ok (.aload_n 0, 1) := by decide +kernel
theorem dX3_obeyDeed_76 : decode cX3_obeyDeed 76 = .ok (.getfield 47, 3) := by decide +kernel
theorem dX3_obeyDeed_79 : decode cX3_obeyDeed 79 = .ok (.invokevirtual 302, 3) := by decide +kernel
theorem dX3_obeyDeed_82 : decode cX3_obeyDeed 82 = .ok (.invokevirtual 305, 3) := by decide +kernel
theorem dX3_obeyDeed_85 : decode cX3_obeyDeed 85 = .ok (.ireturn, 1) := by decide +kernel
theorem dX3_obeyDeed_86 : decode cX3_obeyDeed 86 = .ok (.iload_n 1, 1) := by decide +kernel
theorem dX3_obeyDeed_87 : decode cX3_obeyDeed 87 = .ok (.bipush 98, 2) := by decide +kernel
theorem dX3_obeyDeed_89 : decode cX3_obeyDeed 89 = .ok (.if_icmp .ne 36, 3) := by decide +kernel
theorem dX3_obeyDeed_92 : decode cX3_obeyDeed 92 = .ok (.aload_n 0, 1) := by decide +kernel
theorem dX3_obeyDeed_93 : decode cX3_obeyDeed 93 = .ok (.aload_n 0, 1) := by decide +kernel
theorem dX3_obeyDeed_94 : decode cX3_obeyDeed 94 = .ok (.getfield 47, 3) := by decide +kernel
theorem dX3_obeyDeed_97 : decode cX3_obeyDeed 97 = .ok (.getfield 296, 3) := by decide +kernel
theorem dX3_obeyDeed_100 : decode cX3_obeyDeed 100 = .ok (.aload_n 0, 1) := by decide +kernel
theorem dX3_obeyDeed_101 : decode cX3_obeyDeed 101 = .ok (.getfield 12, 3) := by decide +kernel
theorem dX3_obeyDeed_104 : decode cX3_obeyDeed 104 = .ok (.aload_n 0, 1) := by decide +kernel
theorem dX3_obeyDeed_105 : decode cX3_obeyDeed 105 = .ok (.getfield 47, 3) := by decide +kernel
theorem dX3_obeyDeed_108 : decode cX3_obeyDeed 108 = .ok (.getfield 287, 3) := by decide +kernel
theorem dX3_obeyDeed_111 : decode cX3_obeyDeed 111 = .ok (.aload_n 0, 1) := by decide +kernel
theorem dX3_obeyDeed_112 : decode cX3_obeyDeed 112 = .ok (.getfield 47, 3) := by decide +kernel
theorem dX3_obeyDeed_115 : decode cX3_obeyDeed 115 = .ok (.getfield 290, 3) := by decide +kernel
theorem dX3_obeyDeed_118 : decode cX3_obeyDeed 118 = .ok (.invokevirtual 93, 3) := by decide +kernel
theorem dX3_obeyDeed_121 : decode cX3_obeyDeed 121 = .ok (.invokevirtual 308, 3) := by decide +kernel
theorem dX3_obeyDeed_124 : decode cX3_obeyDeed 124 = .ok (.ireturn, 1) := by decide +kernel
theorem dX3_obeyDeed_125 : decode cX3_obeyDeed 125 = .ok (.iload_n 1, 1) := by decide +kernel
theorem dX3_obeyDeed_126 : decode cX3_obeyDeed 126 = .ok (.bipush 102, 2) := by decide +kernel
theorem dX3_obeyDeed_128 : decode cX3_obeyDeed 128 = .ok (.if_icmp .ne 21, 3) := by decide +kernel
theorem dX3_obeyDeed_131 : decode cX3_obeyDeed 131 = .ok (.aload_n 0, 1) := by decide +kernel
theorem dX3_obeyDeed_132 : decode cX3_obeyDeed 132 = .ok (.getfield 20, 3) := by decide +kernel
theorem dX3_obeyDeed_135 : decode cX3_obeyDeed 135 = .ok (.aload_n 0, 1) := by decide +kernel
theorem dX3_obeyDeed_136 : decode cX3_obeyDeed 136 = .ok (.getfield 47, 3) := by decide +kernel
theorem dX3_obeyDeed_139 : decode cX3_obeyDeed 139 = .ok (.getfield 296, 3) := by decide +kernel
theorem dX3_obeyDeed_142 : decode cX3_obeyDeed 142 = .ok (.invokevirtual 86, 3) := by decide +kernel
theorem dX3_obeyDeed_145 : decode cX3_obeyDeed 145 = .ok (.pop, 1) := by decide +kernel
theorem dX3_obeyDeed_146 : decode cX3_obeyDeed 146 = .ok (.goto 8, 3) := by decide +kernel
theorem dX3_obeyDeed_149 : decode cX3_obeyDeed 149 = .ok (.aload_n 0, 1) := by decide +kernel
theorem dX3_obeyDeed_150 : decode cX3_obeyDeed 150 = .ok (.invokevirtual 113, 3) := by decide +kernel
theorem dX3_obeyDeed_153 : decode cX3_obeyDeed 153 = .ok (.pop, 1) := by decide +kernel
theorem dX3_obeyDeed_154 : decode cX3_obeyDeed 154 = .ok (.iconst 1, 1) := by decide +kernel
theorem dX3_obeyDeed_155 : decode cX3_obeyDeed 155 = .ok (.ireturn, 1) := by decide +kernel
set_option maxRecDepth 20000 in
theorem ggX3_obeyGrant_X3_isSquare : GoodIn wsX3_obeyGrant wsX3_isSquare := goodIn_r _ [5] (by decide +kernel) (by decide +kernel)
set_option maxRecDepth 20000 in
theorem gX3_obeyGrant_X3_isSquare : GoodIn wsX3_obeyGrant (va_wsS RX3 245 yX3_isSquare wsX3_isSquare) := goodIn_app (goodIn_of _ (by decide +kernel)) ggX3_obeyGrant_X3_isSquare
set_option maxRecDepth 20000 in
theorem ggX3_obeyGrant_X1_give : GoodIn wsX3_obeyGrant wsX1_give := goodIn_r _ [10, 11, 3, 4, 5, 21, 22, 23, 24, 25, 26, 27, 28] (by decide +kernel) (by decide +kernel)
set_option maxRecDepth 20000 in
theorem gX3_obeyGrant_X1_give : GoodIn wsX3_obeyGrant (wsV RX3 66 RX1 yX1_give wsX1_give) := goodIn_app (goodIn_of _ (by decide +kernel)) ggX3_obeyGrant_X1_give
theorem dX3_obeyGrant_0 : decode cX3_obeyGrant 0 = .ok (.iload_n 1, 1) := by decide +kernel
theorem dX3_obeyGrant_1 : decode cX3_obeyGrant 1 = .ok (.iload_n 2, 1) := by decide +kernel
theorem dX3_obeyGrant_2 : decode cX3_obeyGrant 2 = .ok (.iload_n 3, 1) := by decide +kernel
theorem dX3_obeyGrant_3 : decode cX3_obeyGrant 3 = .ok (.invokestatic 245, 3) := by decide +kernel
theorem dX3_obeyGrant_6 : decode cX3_obeyGrant 6 = .ok (.ifCond .ne 5, 3) := by decide +kernel
theorem dX3_obeyGrant_9 : decode cX3_obeyGrant 9 = .ok (.iconst 0, 1) := by decide +kernel
theorem dX3_obeyGrant_10 : decode cX3_obeyGrant 10 = .ok (.ireturn, 1) := by decide +kernel
theorem dX3_obeyGrant_11 : decode cX3_obeyGrant 11 = .ok (.aload_n 0, 1) := by decide +kernel
theorem dX3_obeyGrant_12 : decode cX3_obeyGrant 12 = .ok (.getfield 20, 3) := by decide +kernel
theorem dX3_obeyGrant_15 : decode cX3_obeyGrant 15 = .ok (.iload_n 1, 1) := by decide +kernel
theorem dX3_obeyGrant_16 : decode cX3_obeyGrant 16 = .ok (.iload_n 2, 1) := by decide +kernel
theorem dX3_obeyGrant_17 : decode cX3_obeyGrant 17 = .ok (.iload_n 3, 1) := by decide +kernel
theorem dX3_obeyGrant_18 : decode cX3_obeyGrant 18 = .ok (.iload 4, 2) := by decide +kernel
theorem dX3_obeyGrant_20 : decode cX3_obeyGrant 20 = .ok (.invokevirtual 66, 3) := by decide +kernel
theorem dX3_obeyGrant_23 : decode cX3_obeyGrant 23 = .ok (.pop, 1) := by decide +kernel
theorem dX3_obeyGrant_24 : decode cX3_obeyGrant 24 = .ok (.iconst 1, 1) := by decide +kernel
theorem dX3_obeyGrant_25 : decode cX3_obeyGrant 25 = .ok (.ireturn, 1) := by decide +kernel
set_option maxRecDepth 20000 in
theorem ggX3_obeyRaise_X3_isSquare : GoodIn wsX3_obeyRaise wsX3_isSquare := goodIn_r _ [5] (by decide +kernel) (by decide +kernel)
set_option maxRecDepth 20000 in
theorem gX3_obeyRaise_X3_isSquare : GoodIn wsX3_obeyRaise (va_wsS RX3 245 yX3_isSquare wsX3_isSquare) := goodIn_app (goodIn_of _ (by decide +kernel)) ggX3_obeyRaise_X3_isSquare
set_option maxRecDepth 20000 in
theorem ggX3_obeyRaise_X1_lift : GoodIn wsX3_obeyRaise wsX1_lift := goodIn_r _ [10, 11, 12, 13, 14, 15, 16, 17, 18, 3, 4, 5, 28, 29, 30, 31, 32, 33, 34, 35] (by decide +kernel) (by decide +kernel)
set_option maxRecDepth 20000 in
theorem gX3_obeyRaise_X1_lift : GoodIn wsX3_obeyRaise (wsV RX3 80 RX1 yX1_lift wsX1_lift) := goodIn_app (goodIn_of _ (by decide +kernel)) ggX3_obeyRaise_X1_lift
theorem dX3_obeyRaise_0 : decode cX3_obeyRaise 0 = .ok (.iload_n 1, 1) := by decide +kernel
theorem dX3_obeyRaise_1 : decode cX3_obeyRaise 1 = .ok (.iload_n 2, 1) := by decide +kernel
theorem dX3_obeyRaise_2 : decode cX3_obeyRaise 2 = .ok (.iload_n 3, 1) := by decide +kernel
theorem dX3_obeyRaise_3 : decode cX3_obeyRaise 3 = .ok (.invokestatic 245, 3) := by decide +kernel
theorem dX3_obeyRaise_6 : decode cX3_obeyRaise 6 = .ok (.ifCond .ne 5, 3) := by decide +kernel
theorem dX3_obeyRaise_9 : decode cX3_obeyRaise 9 = .ok (.iconst 0, 1) := by decide +kernel
theorem dX3_obeyRaise_10 : decode cX3_obeyRaise 10 = .ok (.ireturn, 1) := by decide +kernel
theorem dX3_obeyRaise_11 : decode cX3_obeyRaise 11 = .ok (.aload_n 0, 1) := by decide +kernel
theorem dX3_obeyRaise_12 : decode cX3_obeyRaise 12 = .ok (.getfield 20, 3) := by decide +kernel
theorem dX3_obeyRaise_15 : decode cX3_obeyRaise 15 = .ok (.iload_n 1, 1) := by decide +kernel
theorem dX3_obeyRaise_16 : decode cX3_obeyRaise 16 = .ok (.iload_n 2, 1) := by decide +kernel
theorem dX3_obeyRaise_17 : decode cX3_obeyRaise 17 = .ok (.iload_n 3, 1) := by decide +kernel
theorem dX3_obeyRaise_18 : decode cX3_obeyRaise 18 = .ok (.iload 4, 2) := by decide +kernel
theorem dX3_obeyRaise_20 : decode cX3_obeyRaise 20 = .ok (.invokevirtual 80, 3) := by decide +kernel
theorem dX3_obeyRaise_23 : decode cX3_obeyRaise 23 = .ok (.pop, 1) := by decide +kernel
theorem dX3_obeyRaise_24 : decode cX3_obeyRaise 24 = .ok (.iconst 1, 1) := by decide +kernel
theorem dX3_obeyRaise_25 : decode cX3_obeyRaise 25 = .ok (.ireturn, 1) := by decide +kernel
set_option maxRecDepth 20000 in
theorem ggX3_obeySale_X2_cornerX : GoodIn wsX3_obeySale wsX2_cornerX := goodIn_r _ [7, 8, 9, 10, 11, 6, 12, 13, 77, 78, 79, 80, 81, 82, 83] (by decide +kernel) (by decide +kernel)
set_option maxRecDepth 20000 in
theorem gX3_obeySale_X2_cornerX : GoodIn wsX3_obeySale (wsV RX3 97 RX2 yX2_cornerX wsX2_cornerX) := goodIn_app (goodIn_of _ (by decide +kernel)) ggX3_obeySale_X2_cornerX
set_option maxRecDepth 20000 in
theorem ggX3_obeySale_X2_cornerY : GoodIn wsX3_obeySale wsX2_cornerY := goodIn_r _ [17, 18, 9, 10, 11, 6, 12, 13, 77, 78, 79, 80, 81, 82, 83] (by decide +kernel) (by decide +kernel)
set_option maxRecDepth 20000 in
theorem gX3_obeySale_X2_cornerY : GoodIn wsX3_obeySale (wsV RX3 100 RX2 yX2_cornerY wsX2_cornerY) := goodIn_app (goodIn_of _ (by decide +kernel)) ggX3_obeySale_X2_cornerY
set_option maxRecDepth 20000 in
theorem ggX3_obeySale_X2_sizeOf : GoodIn wsX3_obeySale wsX2_sizeOf := goodIn_r _ [22, 23, 9, 10, 11, 6, 12, 13, 77, 78, 79, 80, 81, 82, 83] (by decide +kernel) (by decide +kernel)
set_option maxRecDepth 20000 in
theorem gX3_obeySale_X2_sizeOf : GoodIn wsX3_obeySale (wsV RX3 103 RX2 yX2_sizeOf wsX2_sizeOf) := goodIn_app (goodIn_of _ (by decide +kernel)) ggX3_obeySale_X2_sizeOf
set_option maxRecDepth 20000 in
theorem ggX3_obeySale_X1_canSell : GoodIn wsX3_obeySale wsX1_canSell := goodIn_r _ [28, 29, 30, 31, 27, 32, 33, 34, 35, 36, 37, 38, 39, 40, 41, 42, 43, 44, 45, 46, 47, 48, 49, 50, 51, 52, 53, 54, 84, 85, 86, 87, 88, 89, 90, 91] (by decide +kernel) (by decide +kernel)
set_option maxRecDepth 20000 in
theorem gX3_obeySale_X1_canSell : GoodIn wsX3_obeySale (wsV RX3 258 RX1 yX1_canSell wsX1_canSell) := goodIn_app (goodIn_of _ (by decide +kernel)) ggX3_obeySale_X1_canSell
set_option maxRecDepth 20000 in
theorem ggX3_obeySale_X1_sell : GoodIn wsX3_obeySale wsX1_sell := goodIn_r _ [58, 59, 50, 51, 52, 27, 53, 54, 37, 38, 39, 40, 33, 41, 35, 42, 60, 61, 62, 63, 47, 48, 49, 64, 65, 66, 67, 34, 36, 84, 85, 86, 87, 88, 89, 90, 91] (by decide +kernel) (by decide +kernel)
set_option maxRecDepth 20000 in
theorem gX3_obeySale_X1_sell : GoodIn wsX3_obeySale (wsV RX3 110 RX1 yX1_sell wsX1_sell) := goodIn_app (goodIn_of _ (by decide +kernel)) ggX3_obeySale_X1_sell
theorem dX3_obeySale_0 : decode cX3_obeySale 0 = .ok (.aload_n 0, 1) := by decide +kernel
theorem dX3_obeySale_1 : decode cX3_obeySale 1 = .ok (.getfield 12, 3) := by decide +kernel
theorem dX3_obeySale_4 : decode cX3_obeySale 4 = .ok (.iload_n 2, 1) := by decide +kernel
theorem dX3_obeySale_5 : decode cX3_obeySale 5 = .ok (.invokevirtual 97, 3) := by decide +kernel
theorem dX3_obeySale_8 : decode cX3_obeySale 8 = .ok (.istore_n 3, 1) := by decide +kernel
theorem dX3_obeySale_9 : decode cX3_obeySale 9 = .ok (.aload_n 0, 1) := by decide +kernel
theorem dX3_obeySale_10 : decode cX3_obeySale 10 = .ok (.getfield 12, 3) := by decide +kernel
theorem dX3_obeySale_13 : decode cX3_obeySale 13 = .ok (.iload_n 2, 1) := by decide +kernel
theorem dX3_obeySale_14 : decode cX3_obeySale 14 = .ok (.invokevirtual 100, 3) := by decide +kernel
theorem dX3_obeySale_17 : decode cX3_obeySale 17 = .ok (.istore 4, 2) := by decide +kernel
theorem dX3_obeySale_19 : decode cX3_obeySale 19 = .ok (.aload_n 0, 1) := by decide +kernel
theorem dX3_obeySale_20 : decode cX3_obeySale 20 = .ok (.getfield 12, 3) := by decide +kernel
theorem dX3_obeySale_23 : decode cX3_obeySale 23 = .ok (.iload_n 2, 1) := by decide +kernel
theorem dX3_obeySale_24 : decode cX3_obeySale 24 = .ok (.invokevirtual 103, 3) := by decide +kernel
theorem dX3_obeySale_27 : decode cX3_obeySale 27 = .ok (.istore 5, 2) := by decide +kernel
theorem dX3_obeySale_29 : decode cX3_obeySale 29 = .ok (.aload_n 0, 1) := by decide +kernel
theorem dX3_obeySale_30 : decode cX3_obeySale 30 = .ok (.getfield 20, 3) := by decide +kernel
theorem dX3_obeySale_33 : decode cX3_obeySale 33 = .ok (.iload_n 1, 1) := by decide +kernel
theorem dX3_obeySale_34 : decode cX3_obeySale 34 = .ok (.iload_n 3, 1) := by decide +kernel
theorem dX3_obeySale_35 : decode cX3_obeySale 35 = .ok (.iload 4, 2) := by decide +kernel
theorem dX3_obeySale_37 : decode cX3_obeySale 37 = .ok (.iload 5, 2) := by decide +kernel
theorem dX3_obeySale_39 : decode cX3_obeySale 39 = .ok (.invokevirtual 258, 3) := by decide +kernel
theorem dX3_obeySale_42 : decode cX3_obeySale 42 = .ok (.ifCond .ne 5, 3) := by decide +kernel
theorem dX3_obeySale_45 : decode cX3_obeySale 45 = .ok (.iconst 0, 1) := by decide +kernel
theorem dX3_obeySale_46 : decode cX3_obeySale 46 = .ok (.ireturn, 1) := by decide +kernel
theorem dX3_obeySale_47 : decode cX3_obeySale 47 = .ok (.aload_n 0, 1) := by decide +kernel
theorem dX3_obeySale_48 : decode cX3_obeySale 48 = .ok (.getfield 20, 3) := by decide +kernel
theorem dX3_obeySale_51 : decode cX3_obeySale 51 = .ok (.iload_n 1, 1) := by decide +kernel
theorem dX3_obeySale_52 : decode cX3_obeySale 52 = .ok (.iload_n 3, 1) := by decide +kernel
theorem dX3_obeySale_53 : decode cX3_obeySale 53 = .ok (.iload 4, 2) := by decide +kernel
theorem dX3_obeySale_55 : decode cX3_obeySale 55 = .ok (.iload 5, 2) := by decide +kernel
theorem dX3_obeySale_57 : decode cX3_obeySale 57 = .ok (.invokevirtual 110, 3) := by decide +kernel
theorem dX3_obeySale_60 : decode cX3_obeySale 60 = .ok (.pop, 1) := by decide +kernel
theorem dX3_obeySale_61 : decode cX3_obeySale 61 = .ok (.iconst 1, 1) := by decide +kernel
theorem dX3_obeySale_62 : decode cX3_obeySale 62 = .ok (.ireturn, 1) := by decide +kernel
set_option maxRecDepth 20000 in
theorem ggX3_saveState_X3_dropOldest : GoodIn wsX3_saveState wsX3_dropOldest := goodIn_r _ [7, 2, 1, 43, 44, 45, 46, 47, 48, 49, 50, 51] (by decide +kernel) (by decide +kernel)
set_option maxRecDepth 20000 in
theorem gX3_saveState_X3_dropOldest : GoodIn wsX3_saveState (wsV RX3 311 RX3 yX3_dropOldest wsX3_dropOldest) := goodIn_app (goodIn_of _ (by decide +kernel)) ggX3_saveState_X3_dropOldest
set_option maxRecDepth 20000 in
theorem ggX3_saveState_X3_storeIn : GoodIn wsX3_saveState wsX3_storeIn := goodIn_r _ [11, 12, 13, 14, 15, 16, 17, 18, 19, 20, 21, 22, 23, 24, 25, 26, 27, 28, 29, 30, 31, 32, 33, 34, 35, 36, 37, 38, 39, 40, 41, 42, 52, 53, 54, 55, 56, 57, 58, 59, 43, 44, 45, 46, 47, 48, 49, 50, 51] (by decide +kernel) (by decide +kernel)
set_option maxRecDepth 20000 in
theorem gX3_saveState_X3_storeIn : GoodIn wsX3_saveState (wsV RX3 159 RX3 yX3_storeIn wsX3_storeIn) := goodIn_app (goodIn_of _ (by decide +kernel)) ggX3_saveState_X3_storeIn
theorem dX3_saveState_0 : decode cX3_saveState 0 = .ok (.aload_n 0, 1) := by decide +kernel
theorem dX3_saveState_1 : decode cX3_saveState 1 = .ok (.getfield 30, 3) := by decide +kernel
theorem dX3_saveState_4 : decode cX3_saveState 4 = .ok (.bipush 6, 2) := by decide +kernel
theorem dX3_saveState_6 : decode cX3_saveState 6 = .ok (.if_icmp .lt 7, 3) := by decide +kernel
theorem dX3_saveState_9 : decode cX3_saveState 9 = .ok (.aload_n 0, 1) := by decide +kernel
theorem dX3_saveState_10 : decode cX3_saveState 10 = .ok (.invokevirtual 311, 3) := by decide +kernel
theorem dX3_saveState_13 : decode cX3_saveState 13 = .ok (.aload_n 0, 1) := by decide +kernel
theorem dX3_saveState_14 : decode cX3_saveState 14 = .ok (.aload_n 0, 1) := by decide +kernel
theorem dX3_saveState_15 : decode cX3_saveState 15 = .ok (.getfield 26, 3) := by decide +kernel
theorem dX3_saveState_18 : decode cX3_saveState 18 = .ok (.aload_n 0, 1) := by decide +kernel
theorem dX3_saveState_19 : decode cX3_saveState 19 = .ok (.getfield 30, 3) := by decide +kernel
theorem dX3_saveState_22 : decode cX3_saveState 22 = .ok (.invokevirtual 159, 3) := by decide +kernel
theorem dX3_saveState_25 : decode cX3_saveState 25 = .ok (.aload_n 0, 1) := by decide +kernel
theorem dX3_saveState_26 : decode cX3_saveState 26 = .ok (.dup, 1) := by decide +kernel
theorem dX3_saveState_27 : decode cX3_saveState 27 = .ok (.getfield 30, 3) := by decide +kernel
theorem dX3_saveState_30 : decode cX3_saveState 30 = .ok (.iconst 1, 1) := by decide +kernel
theorem dX3_saveState_31 : decode cX3_saveState 31 = .ok (.iadd, 1) := by decide +kernel
theorem dX3_saveState_32 : decode cX3_saveState 32 = .ok (.putfield 30, 3) := by decide +kernel
theorem dX3_saveState_35 : decode cX3_saveState 35 = .ok (.return_, 1) := by decide +kernel
theorem dX3_dropOldest_0 : decode cX3_dropOldest 0 = .ok (.aload_n 0, 1) := by decide +kernel
theorem dX3_dropOldest_1 : decode cX3_dropOldest 1 = .ok (.getfield 26, 3) := by decide +kernel
theorem dX3_dropOldest_4 : decode cX3_dropOldest 4 = .ok (.iconst 0, 1) := by decide +kernel
theorem dX3_dropOldest_5 : decode cX3_dropOldest 5 = .ok (.aaload, 1) := by decide +kernel
theorem dX3_dropOldest_6 : decode cX3_dropOldest 6 = .ok (.astore_n 1, 1) := by decide +kernel
theorem dX3_dropOldest_7 : decode cX3_dropOldest 7 = .ok (.iconst 1, 1) := by decide +kernel
theorem dX3_dropOldest_8 : decode cX3_dropOldest 8 = .ok (.istore_n 2, 1) := by decide +kernel
theorem dX3_dropOldest_9 : decode cX3_dropOldest 9 = .ok (.iload_n 2, 1) := by decide +kernel
theorem dX3_dropOldest_10 : decode cX3_dropOldest 10 = .ok (.bipush 6, 2) := by decide +kernel
theorem dX3_dropOldest_12 : decode cX3_dropOldest 12 = .ok (.if_icmp .ge 23, 3) := by decide +kernel
theorem dX3_dropOldest_15 : decode cX3_dropOldest 15 = .ok (.aload_n 0, 1) := by decide +kernel
theorem dX3_dropOldest_16 : decode cX3_dropOldest 16 = .ok (.getfield 26, 3) := by decide +kernel
theorem dX3_dropOldest_19 : decode cX3_dropOldest 19 = .ok (.iload_n 2, 1) := by decide +kernel
theorem dX3_dropOldest_20 : decode cX3_dropOldest 20 = .ok (.iconst 1, 1) := by decide +kernel
theorem dX3_dropOldest_21 : decode cX3_dropOldest 21 = .ok (.isub, 1) := by decide +kernel
theorem dX3_dropOldest_22 : decode cX3_dropOldest 22 = .ok (.aload_n 0, 1) := by decide +kernel
theorem dX3_dropOldest_23 : decode cX3_dropOldest 23 = .ok (.getfield 26, 3) := by decide +kernel
theorem dX3_dropOldest_26 : decode cX3_dropOldest 26 = .ok (.iload_n 2, 1) := by decide +kernel
theorem dX3_dropOldest_27 : decode cX3_dropOldest 27 = .ok (.aaload, 1) := by decide +kernel
theorem dX3_dropOldest_28 : decode cX3_dropOldest 28 = .ok (.aastore, 1) := by decide +kernel
theorem dX3_dropOldest_29 : decode cX3_dropOldest 29 = .ok (.iinc 2 1, 3) := by decide +kernel
theorem dX3_dropOldest_32 : decode cX3_dropOldest 32 = .ok (.goto (-23), 3) := by decide +kernel
theorem dX3_dropOldest_35 : decode cX3_dropOldest 35 = .ok (.aload_n 0, 1) := by decide +kernel
theorem dX3_dropOldest_36 : decode cX3_dropOldest 36 = .ok (.getfield 26, 3) := by decide +kernel
theorem dX3_dropOldest_39 : decode cX3_dropOldest 39 = .ok (.iconst 5, 1) := by decide +kernel
theorem dX3_dropOldest_40 : decode cX3_dropOldest 40 = .ok (.aload_n 1, 1) := by decide +kernel
theorem dX3_dropOldest_41 : decode cX3_dropOldest 41 = .ok (.aastore, 1) := by decide +kernel
theorem dX3_dropOldest_42 : decode cX3_dropOldest 42 = .ok (.aload_n 0, 1) := by decide +kernel
theorem dX3_dropOldest_43 : decode cX3_dropOldest 43 = .ok (.iconst 5, 1) := by decide +kernel
theorem dX3_dropOldest_44 : decode cX3_dropOldest 44 = .ok (.putfield 30, 3) := by decide +kernel
theorem dX3_dropOldest_47 : decode cX3_dropOldest 47 = .ok (.return_, 1) := by decide +kernel
theorem dX3_stateIn_0 : decode cX3_stateIn 0 = .ok (.iload_n 1, 1) := by decide +kernel
theorem dX3_stateIn_1 : decode cX3_stateIn 1 = .ok (.ifCond .lt 15, 3) := by decide +kernel
theorem dX3_stateIn_4 : decode cX3_stateIn 4 = .ok (.iload_n 1, 1) := by decide +kernel
theorem dX3_stateIn_5 : decode cX3_stateIn 5 = .ok (.aload_n 0, 1) := by decide +kernel
theorem dX3_stateIn_6 : decode cX3_stateIn 6 = .ok (.arraylength, 1) := by decide +kernel
theorem dX3_stateIn_7 : decode cX3_stateIn 7 = .ok (.if_icmp .ge 9, 3) := by decide +kernel
theorem dX3_stateIn_10 : decode cX3_stateIn 10 = .ok (.aload_n 0, 1) := by decide +kernel
theorem dX3_stateIn_11 : decode cX3_stateIn 11 = .ok (.iload_n 1, 1) := by decide +kernel
theorem dX3_stateIn_12 : decode cX3_stateIn 12 = .ok (.aaload, 1) := by decide +kernel
theorem dX3_stateIn_13 : decode cX3_stateIn 13 = .ok (.goto 4, 3) := by decide +kernel
theorem dX3_stateIn_16 : decode cX3_stateIn 16 = .ok (.aconst_null, 1) := by decide +kernel
theorem dX3_stateIn_17 : decode cX3_stateIn 17 = .ok (.areturn, 1) := by decide +kernel
set_option maxRecDepth 20000 in
theorem ggX3_storeIn_X1_init : GoodIn wsX3_storeIn wsX1_init := goodIn_r _ [7, 8, 9, 10, 11, 12, 13, 14, 15, 16, 17, 18, 19, 20, 21, 22, 23, 32, 33, 34, 35, 36, 37, 38, 39] (by decide +kernel) (by decide +kernel)
set_option maxRecDepth 20000 in
theorem gX3_storeIn_X1_init : GoodIn wsX3_storeIn (wsX1_init) := ggX3_storeIn_X1_init
set_option maxRecDepth 20000 in
theorem ggX3_storeIn_X1_become : GoodIn wsX3_storeIn wsX1_become := goodIn_r _ [27, 12, 28, 29, 30, 31, 13, 14, 15, 16, 17, 18, 19, 32, 33, 34, 35, 36, 37, 38, 39] (by decide +kernel) (by decide +kernel)
set_option maxRecDepth 20000 in
theorem gX3_storeIn_X1_become : GoodIn wsX3_storeIn (wsV RX3 215 RX1 yX1_become wsX1_become) := goodIn_app (goodIn_of _ (by decide +kernel)) ggX3_storeIn_X1_become
theorem dX3_storeIn_0 : decode cX3_storeIn 0 = .ok (.iload_n 2, 1) := by decide +kernel
theorem dX3_storeIn_1 : decode cX3_storeIn 1 = .ok (.ifCond .lt 9, 3) := by decide +kernel
theorem dX3_storeIn_4 : decode cX3_storeIn 4 = .ok (.iload_n 2, 1) := by decide +kernel
theorem dX3_storeIn_5 : decode cX3_storeIn 5 = .ok (.aload_n 1, 1) := by decide +kernel
theorem dX3_storeIn_6 : decode cX3_storeIn 6 = .ok (.arraylength, 1) := by decide +kernel
theorem dX3_storeIn_7 : decode cX3_storeIn 7 = .ok (.if_icmp .lt 4, 3) := by decide +kernel
theorem dX3_storeIn_10 : decode cX3_storeIn 10 = .ok (.return_, 1) := by decide +kernel
theorem dX3_storeIn_11 : decode cX3_storeIn 11 = .ok (.aload_n 1, 1) := by decide +kernel
theorem dX3_storeIn_12 : decode cX3_storeIn 12 = .ok (.iload_n 2, 1) := by decide +kernel
theorem dX3_storeIn_13 : decode cX3_storeIn 13 = .ok (.aaload, 1) := by decide +kernel
theorem dX3_storeIn_14 : decode cX3_storeIn 14 = .ok (.astore_n 3, 1) := by decide +kernel
theorem dX3_storeIn_15 : decode cX3_storeIn 15 = .ok (.aload_n 3, 1) := by decide +kernel
theorem dX3_storeIn_16 : decode cX3_storeIn 16 = .ok (.ifnonnull 15, 3) := by decide +kernel
theorem dX3_storeIn_19 : decode cX3_storeIn 19 = .ok (.new 24, 3) := by decide +kernel
theorem dX3_storeIn_22 : decode cX3_storeIn 22 = .ok (.dup, 1) := by decide +kernel
theorem dX3_storeIn_23 : decode cX3_storeIn 23 = .ok (.invokespecial 314, 3) := by decide +kernel
theorem dX3_storeIn_26 : decode cX3_storeIn 26 = .ok (.astore_n 3, 1) := by decide +kernel
theorem dX3_storeIn_27 : decode cX3_storeIn 27 = .ok (.aload_n 1, 1) := by decide +kernel
theorem dX3_storeIn_28 : decode cX3_storeIn 28 = .ok (.iload_n 2, 1) := by decide +kernel
theorem dX3_storeIn_29 : decode cX3_storeIn 29 = .ok (.aload_n 3, 1) := by decide +kernel
theorem dX3_storeIn_30 : decode cX3_storeIn 30 = .ok (.aastore, 1) := by decide +kernel
theorem dX3_storeIn_31 : decode cX3_storeIn 31 = .ok (.aload_n 3, 1) := by decide +kernel
theorem dX3_storeIn_32 : decode cX3_storeIn 32 = .ok (.aload_n 0, 1) := by decide +kernel
theorem dX3_storeIn_33 : decode cX3_storeIn 33 = .ok (.getfield 20, 3) := by decide +kernel
theorem dX3_storeIn_36 : decode cX3_storeIn 36 = .ok (.invokevirtual 215, 3) := by decide +kernel
theorem dX3_storeIn_39 : decode cX3_storeIn 39 = .ok (.return_, 1) := by decide +kernel
set_option maxRecDepth 20000 in
theorem ggX3_restore_X1_become : GoodIn wsX3_restore wsX1_become := goodIn_r _ [7, 8, 9, 10, 11, 12, 13, 14, 15, 16, 17, 18, 19, 73, 74, 75, 76, 77, 78, 79, 80] (by decide +kernel) (by decide +kernel)
set_option maxRecDepth 20000 in
theorem gX3_restore_X1_become : GoodIn wsX3_restore (wsV RX3 215 RX1 yX1_become wsX1_become) := goodIn_app (goodIn_of _ (by decide +kernel)) ggX3_restore_X1_become
set_option maxRecDepth 20000 in
theorem ggX3_restore_X2_measure : GoodIn wsX3_restore wsX2_measure := goodIn_r _ [24, 25, 26, 27, 28, 29, 30, 31, 32, 23, 33, 34, 35, 36, 37, 38, 39, 40, 41, 42, 43, 44, 45, 46, 47, 48, 6, 49, 8, 50, 51, 52, 53, 54, 55, 56, 57, 58, 59, 60, 61, 62, 63, 81, 82, 83, 84, 85, 86, 87, 73, 74, 75, 76, 77, 78, 79, 80] (by decide +kernel) (by decide +kernel)
set_option maxRecDepth 20000 in
theorem gX3_restore_X2_measure : GoodIn wsX3_restore (wsV RX3 70 RX2 yX2_measure wsX2_measure) := goodIn_app (goodIn_of _ (by decide +kernel)) ggX3_restore_X2_measure
theorem dX3_restore_0 : decode cX3_restore 0 = .ok (.aload_n 0, 1) := by decide +kernel
theorem dX3_restore_1 : decode cX3_restore 1 = .ok (.getfield 20, 3) := by decide +kernel
theorem dX3_restore_4 : decode cX3_restore 4 = .ok (.aload_n 1, 1) := by decide +kernel
theorem dX3_restore_5 : decode cX3_restore 5 = .ok (.invokevirtual 215, 3) := by decide +kernel
theorem dX3_restore_8 : decode cX3_restore 8 = .ok (.aload_n 0, 1) := by decide +kernel
theorem dX3_restore_9 : decode cX3_restore 9 = .ok (.getfield 12, 3) := by decide +kernel
theorem dX3_restore_12 : decode cX3_restore 12 = .ok (.invokevirtual 70, 3) := by decide +kernel
theorem dX3_restore_15 : decode cX3_restore 15 = .ok (.return_, 1) := by decide +kernel
