set_option maxRecDepth 20000 in
theorem ggX2_init_X1_init : GoodIn wsX2_init wsX1_init := goodIn_r _ [17, 18, 2, 3, 8, 19, 20, 21, 22, 23, 24, 25, 26, 27, 28, 29, 30, 65, 66, 67, 68, 69, 70, 71, 72] (by decide +kernel) (by decide +kernel)
set_option maxRecDepth 20000 in
theorem gX2_init_X1_init : GoodIn wsX2_init (wsX1_init) := ggX2_init_X1_init
set_option maxRecDepth 20000 in
theorem ggX2_init_X2_measure : GoodIn wsX2_init wsX2_measure := goodIn_r _ [35, 9, 14, 36, 28, 29, 30, 37, 38, 34, 39, 40, 41, 42, 43, 44, 45, 46, 47, 48, 49, 50, 7, 51, 52, 53, 6, 54, 19, 55, 56, 57, 58, 59, 60, 10, 11, 12, 13, 61, 62, 63, 64, 73, 74, 75, 76, 77, 78, 79, 65, 66, 67, 68, 69, 70, 71, 72] (by decide +kernel) (by decide +kernel)
set_option maxRecDepth 20000 in
theorem gX2_init_X2_measure : GoodIn wsX2_init (wsV RX2 38 RX2 yX2_measure wsX2_measure) := goodIn_app (goodIn_of _ (by decide +kernel)) ggX2_init_X2_measure
theorem dX2_init_0 : decode cX2_init 0 = .ok (.aload_n 0, 1) := by decide +kernel
theorem dX2_init_1 : decode cX2_init 1 = .ok (.invokespecial 3, 3) := by decide +kernel
theorem dX2_init_4 : decode cX2_init 4 = .ok (.aload_n 0, 1) := by decide +kernel
theorem dX2_init_5 : decode cX2_init 5 = .ok (.new 9, 3) := by decide +kernel
theorem dX2_init_8 : decode cX2_init 8 = .ok (.dup, 1) := by decide +kernel
theorem dX2_init_9 : decode cX2_init 9 = .ok (.invokespecial 11, 3) := by decide +kernel
theorem dX2_init_12 : decode cX2_init 12 = .ok (.putfield 12, 3) := by decide +kernel
theorem dX2_init_15 : decode cX2_init 15 = .ok (.aload_n 0, 1) := by decide +kernel
theorem dX2_init_16 : decode cX2_init 16 = .ok (.sipush 256, 3) := by decide +kernel
theorem dX2_init_19 : decode cX2_init 19 = .ok (.newarray .int, 2) := by decide +kernel
theorem dX2_init_21 : decode cX2_init 21 = .ok (.putfield 18, 3) := by decide +kernel
theorem dX2_init_24 : decode cX2_init 24 = .ok (.aload_n 0, 1) := by decide +kernel
theorem dX2_init_25 : decode cX2_init 25 = .ok (.sipush 256, 3) := by decide +kernel
theorem dX2_init_28 : decode cX2_init 28 = .ok (.newarray .int, 2) := by decide +kernel
theorem dX2_init_30 : decode cX2_init 30 = .ok (.putfield 22, 3) := by decide +kernel
theorem dX2_init_33 : decode cX2_init 33 = .ok (.aload_n 0, 1) := by decide +kernel
theorem dX2_init_34 : decode cX2_init 34 = .ok (.sipush 256, 3) := by decide +kernel
theorem dX2_init_37 : decode cX2_init 37 = .ok (.newarray .int, 2) := by decide +kernel
theorem dX2_init_39 : decode cX2_init 39 = .ok (.putfield 25, 3) := by decide +kernel
theorem dX2_init_42 : decode cX2_init 42 = .ok (.aload_n 0, 1) := by decide +kernel
theorem dX2_init_43 : decode cX2_init 43 = .ok (.sipush 256, 3) := by decide +kernel
theorem dX2_init_46 : decode cX2_init 46 = .ok (.newarray .int, 2) := by decide +kernel
theorem dX2_init_48 : decode cX2_init 48 = .ok (.putfield 28, 3) := by decide +kernel
theorem dX2_init_51 : decode cX2_init 51 = .ok (.aload_n 0, 1) := by decide +kernel
theorem dX2_init_52 : decode cX2_init 52 = .ok (.sipush 256, 3) := by decide +kernel
theorem dX2_init_55 : decode cX2_init 55 = .ok (.newarray .int, 2) := by decide +kernel
theorem dX2_init_57 : decode cX2_init 57 = .ok (.putfield 31, 3) := by decide +kernel
theorem dX2_init_60 : decode cX2_init 60 = .ok (.aload_n 0, 1) := by decide +kernel
theorem dX2_init_61 : decode cX2_init 61 = .ok (.iconst 0, 1) := by decide +kernel
theorem dX2_init_62 : decode cX2_init 62 = .ok (.putfield 34, 3) := by decide +kernel
theorem dX2_init_65 : decode cX2_init 65 = .ok (.aload_n 0, 1) := by decide +kernel
theorem dX2_init_66 : decode cX2_init 66 = .ok (.invokevirtual 38, 3) := by decide +kernel
theorem dX2_init_69 : decode cX2_init 69 = .ok (.return_, 1) := by decide +kernel
set_option maxRecDepth 20000 in
theorem ggX2_measure_J7_fill_53178 : GoodIn wsX2_measure wsJ7_fill_53178 := goodIn_r _ [6] (by decide +kernel) (by decide +kernel)
set_option maxRecDepth 20000 in
theorem gX2_measure_J7_fill_53178 : GoodIn wsX2_measure (va_wsS RX2 41 yJ7_fill_53178 wsJ7_fill_53178) := goodIn_app (goodIn_of _ (by decide +kernel)) ggX2_measure_J7_fill_53178
set_option maxRecDepth 20000 in
theorem ggX2_measure_X2_everyOtherBit : GoodIn wsX2_measure wsX2_everyOtherBit := goodIn_r _ [10] (by decide +kernel) (by decide +kernel)
set_option maxRecDepth 20000 in
theorem gX2_measure_X2_everyOtherBit : GoodIn wsX2_measure (va_wsS RX2 47 yX2_everyOtherBit wsX2_everyOtherBit) := goodIn_app (goodIn_of _ (by decide +kernel)) ggX2_measure_X2_everyOtherBit
set_option maxRecDepth 20000 in
theorem ggX2_measure_X2_rankAt : GoodIn wsX2_measure wsX2_rankAt := goodIn_r _ [14, 1, 15, 16, 17, 43, 44, 45, 46, 47, 48, 49] (by decide +kernel) (by decide +kernel)
set_option maxRecDepth 20000 in
theorem gX2_measure_X2_rankAt : GoodIn wsX2_measure (wsV RX2 51 RX2 yX2_rankAt wsX2_rankAt) := goodIn_app (goodIn_of _ (by decide +kernel)) ggX2_measure_X2_rankAt
set_option maxRecDepth 20000 in
theorem ggX2_measure_X2_largestSize : GoodIn wsX2_measure wsX2_largestSize := goodIn_r _ [21, 22, 23, 24, 25, 26, 27, 28, 29, 16, 30, 43, 44, 45, 46, 47, 48, 49, 50, 51, 52, 53, 54, 55, 56, 57] (by decide +kernel) (by decide +kernel)
set_option maxRecDepth 20000 in
theorem gX2_measure_X2_largestSize : GoodIn wsX2_measure (wsV RX2 55 RX2 yX2_largestSize wsX2_largestSize) := goodIn_app (goodIn_of _ (by decide +kernel)) ggX2_measure_X2_largestSize
set_option maxRecDepth 20000 in
theorem ggX2_measure_X2_addPlot : GoodIn wsX2_measure wsX2_addPlot := goodIn_r _ [34, 2, 35, 22, 36, 37, 38, 1, 29, 16, 30, 39, 40, 41, 26, 42, 28, 15, 17, 43, 44, 45, 46, 47, 48, 49, 50, 51, 52, 53, 54, 55, 56, 57] (by decide +kernel) (by decide +kernel)
set_option maxRecDepth 20000 in
theorem gX2_measure_X2_addPlot : GoodIn wsX2_measure (wsV RX2 58 RX2 yX2_addPlot wsX2_addPlot) := goodIn_app (goodIn_of _ (by decide +kernel)) ggX2_measure_X2_addPlot
theorem dX2_measure_0 : decode cX2_measure 0 = .ok (.aload_n 0, 1) := by decide +kernel
theorem dX2_measure_1 : decode cX2_measure 1 = .ok (.getfield 18, 3) := by decide +kernel
theorem dX2_measure_4 : decode cX2_measure 4 = .ok (.iconst (-1), 1) := by decide +kernel
theorem dX2_measure_5 : decode cX2_measure 5 = .ok (.invokestatic 41, 3) := by decide +kernel
theorem dX2_measure_8 : decode cX2_measure 8 = .ok (.aload_n 0, 1) := by decide +kernel
theorem dX2_measure_9 : decode cX2_measure 9 = .ok (.iconst 0, 1) := by decide +kernel
theorem dX2_measure_10 : decode cX2_measure 10 = .ok (.putfield 34, 3) := by decide +kernel
theorem dX2_measure_13 : decode cX2_measure 13 = .ok (.iconst 0, 1) := by decide +kernel
theorem dX2_measure_14 : decode cX2_measure 14 = .ok (.istore_n 1, 1) := by decide +kernel
theorem dX2_measure_15 : decode cX2_measure 15 = .ok (.iload_n 1, 1) := by decide +kernel
theorem dX2_measure_16 : decode cX2_measure 16 = .ok (.sipush 256, 3) := by decide +kernel
theorem dX2_measure_19 : decode cX2_measure 19 = .ok (.if_icmp .ge 43, 3) := by decide +kernel
theorem dX2_measure_22 : decode cX2_measure 22 = .ok (.iload_n 1, 1) := by decide +kernel
theorem dX2_measure_23 : decode cX2_measure 23 = .ok (.invokestatic 47, 3) := by decide +kernel
theorem dX2_measure_26 : decode cX2_measure 26 = .ok (.istore_n 2, 1) := by decide +kernel
theorem dX2_measure_27 : decode cX2_measure 27 = .ok (.iload_n 1, 1) := by decide +kernel
theorem dX2_measure_28 : decode cX2_measure 28 = .ok (.iconst 1, 1) := by decide +kernel
theorem dX2_measure_29 : decode cX2_measure 29 = .ok (.ishr, 1) := by decide +kernel
theorem dX2_measure_30 : decode cX2_measure 30 = .ok (.invokestatic 47, 3) := by decide +kernel
theorem dX2_measure_33 : decode cX2_measure 33 = .ok (.istore_n 3, 1) := by decide +kernel
theorem dX2_measure_34 : decode cX2_measure 34 = .ok (.aload_n 0, 1) := by decide +kernel
theorem dX2_measure_35 : decode cX2_measure 35 = .ok (.iload_n 2, 1) := by decide +kernel
theorem dX2_measure_36 : decode cX2_measure 36 = .ok (.iload_n 3, 1) := by decide +kernel
theorem dX2_measure_37 : decode cX2_measure 37 = .ok (.invokevirtual 51, 3) := by decide +kernel
theorem dX2_measure_40 : decode cX2_measure 40 = .ok (.iconst (-1), 1) := by decide +kernel
theorem dX2_measure_41 : decode cX2_measure 41 = .ok (.if_icmp .ne 15, 3) := by decide +kernel
theorem dX2_measure_44 : decode cX2_measure 44 = .ok (.aload_n 0, 1) := by decide +kernel
theorem dX2_measure_45 : decode cX2_measure 45 = .ok (.iload_n 2, 1) := by decide +kernel
theorem dX2_measure_46 : decode cX2_measure 46 = .ok (.iload_n 3, 1) := by decide +kernel
theorem dX2_measure_47 : decode cX2_measure 47 = .ok (.aload_n 0, 1) := by decide +kernel
theorem dX2_measure_48 : decode cX2_measure 48 = .ok (.iload_n 2, 1) := by decide +kernel
theorem dX2_measure_49 : decode cX2_measure 49 = .ok (.iload_n 3, 1) := by decide +kernel
theorem dX2_measure_50 : decode cX2_measure 50 = .ok (.invokevirtual 55, 3) := by decide +kernel
theorem dX2_measure_53 : decode cX2_measure 53 = .ok (.invokevirtual 58, 3) := by decide +kernel
theorem dX2_measure_56 : decode cX2_measure 56 = .ok (.iinc 1 1, 3) := by decide +kernel
theorem dX2_measure_59 : decode cX2_measure 59 = .ok (.goto (-44), 3) := by decide +kernel
theorem dX2_measure_62 : decode cX2_measure 62 = .ok (.return_, 1) := by decide +kernel
theorem dX2_everyOtherBit_0 : decode cX2_everyOtherBit 0 = .ok (.iload_n 0, 1) := by decide +kernel
theorem dX2_everyOtherBit_1 : decode cX2_everyOtherBit 1 = .ok (.iconst 1, 1) := by decide +kernel
theorem dX2_everyOtherBit_2 : decode cX2_everyOtherBit 2 = .ok (.iand, 1) := by decide +kernel
theorem dX2_everyOtherBit_3 : decode cX2_everyOtherBit 3 = .ok (.iload_n 0, 1) := by decide +kernel
theorem dX2_everyOtherBit_4 : decode cX2_everyOtherBit 4 = .ok (.iconst 1, 1) := by decide +kernel
theorem dX2_everyOtherBit_5 : decode cX2_everyOtherBit 5 = .ok (.ishr, 1) := by decide +kernel
theorem dX2_everyOtherBit_6 : decode cX2_everyOtherBit 6 = .ok (.iconst 2, 1) := by decide +kernel
theorem dX2_everyOtherBit_7 : decode cX2_everyOtherBit 7 = .ok (.iand, 1) := by decide +kernel
theorem dX2_everyOtherBit_8 : decode cX2_everyOtherBit 8 = .ok (.ior, 1) := by decide +kernel
theorem dX2_everyOtherBit_9 : decode cX2_everyOtherBit 9 = .ok (.iload_n 0, 1) := by decide +kernel
theorem dX2_everyOtherBit_10 : decode cX2_everyOtherBit 10 = .ok (.iconst 2, 1) := by decide +kernel
theorem dX2_everyOtherBit_11 : decode cX2_everyOtherBit 11 = .ok (.ishr, 1) := by decide +kernel
theorem dX2_everyOtherBit_12 : decode cX2_everyOtherBit 12 = .ok (.iconst 4, 1) := by decide +kernel
theorem dX2_everyOtherBit_13 : decode cX2_everyOtherBit 13 = .ok (.iand, 1) := by decide +kernel
theorem dX2_everyOtherBit_14 : decode cX2_everyOtherBit 14 = .ok (.ior, 1) := by decide +kernel
theorem dX2_everyOtherBit_15 : decode cX2_everyOtherBit 15 = .ok (.iload_n 0, 1) := by decide +kernel
theorem dX2_everyOtherBit_16 : decode cX2_everyOtherBit 16 = .ok (.iconst 3, 1) := by decide +kernel
theorem dX2_everyOtherBit_17 : decode cX2_everyOtherBit 17 = .ok (.ishr, 1) := by decide +kernel
theorem dX2_everyOtherBit_18 : decode cX2_everyOtherBit 18 = .ok (.bipush 8, 2) := by decide +kernel
theorem dX2_everyOtherBit_20 : decode cX2_everyOtherBit 20 = .ok (.iand, 1) := by decide +kernel
theorem dX2_everyOtherBit_21 : decode cX2_everyOtherBit 21 = .ok (.ior, 1) := by decide +kernel
theorem dX2_everyOtherBit_22 : decode cX2_everyOtherBit 22 = .ok (.ireturn, 1) := by decide +kernel
set_option maxRecDepth 20000 in
theorem ggX2_largestSize_X1_isSquareOfOne : GoodIn wsX2_largestSize wsX1_isSquareOfOne := goodIn_r _ [6, 7, 8, 9, 10, 18, 19, 20, 21, 22, 23, 24, 25] (by decide +kernel) (by decide +kernel)
set_option maxRecDepth 20000 in
theorem gX2_largestSize_X1_isSquareOfOne : GoodIn wsX2_largestSize (wsV RX2 62 RX1 yX1_isSquareOfOne wsX1_isSquareOfOne) := goodIn_app (goodIn_of _ (by decide +kernel)) ggX2_largestSize_X1_isSquareOfOne
theorem dX2_largestSize_0 : decode cX2_largestSize 0 = .ok (.iconst 1, 1) := by decide +kernel
theorem dX2_largestSize_1 : decode cX2_largestSize 1 = .ok (.istore_n 3, 1) := by decide +kernel
theorem dX2_largestSize_2 : decode cX2_largestSize 2 = .ok (.iconst 2, 1) := by decide +kernel
theorem dX2_largestSize_3 : decode cX2_largestSize 3 = .ok (.istore 4, 2) := by decide +kernel
theorem dX2_largestSize_5 : decode cX2_largestSize 5 = .ok (.iload 4, 2) := by decide +kernel
theorem dX2_largestSize_7 : decode cX2_largestSize 7 = .ok (.bipush 16, 2) := by decide +kernel
theorem dX2_largestSize_9 : decode cX2_largestSize 9 = .ok (.if_icmp .gt 31, 3) := by decide +kernel
theorem dX2_largestSize_12 : decode cX2_largestSize 12 = .ok (.aload_n 0, 1) := by decide +kernel
theorem dX2_largestSize_13 : decode cX2_largestSize 13 = .ok (.getfield 12, 3) := by decide +kernel
theorem dX2_largestSize_16 : decode cX2_largestSize 16 = .ok (.iload_n 1, 1) := by decide +kernel
theorem dX2_largestSize_17 : decode cX2_largestSize 17 = .ok (.iload_n 2, 1) := by decide +kernel
theorem dX2_largestSize_18 : decode cX2_largestSize 18 = .ok (.iload 4, 2) := by decide +kernel
theorem dX2_largestSize_20 : decode cX2_largestSize 20 = .ok (.invokevirtual 62, 3) := by decide +kernel
theorem dX2_largestSize_23 : decode cX2_largestSize 23 = .ok (.ifCond .ne 5, 3) := by decide +kernel
theorem dX2_largestSize_26 : decode cX2_largestSize 26 = .ok (.iload_n 3, 1) := by decide +kernel
theorem dX2_largestSize_27 : decode cX2_largestSize 27 = .ok (.ireturn, 1) := by decide +kernel
theorem dX2_largestSize_28 : decode cX2_largestSize 28 = .ok (.iload 4, 2) := by decide +kernel
theorem dX2_largestSize_30 : decode cX2_largestSize 30 = .ok (.istore_n 3, 1) := by decide +kernel
theorem dX2_largestSize_31 : decode cX2_largestSize 31 = .ok (.iload 4, 2) := by decide +kernel
theorem dX2_largestSize_33 : decode cX2_largestSize 33 = .ok (.iconst 2, 1) := by decide +kernel
theorem dX2_largestSize_34 : decode cX2_largestSize 34 = .ok (.imul, 1) := by decide +kernel
theorem dX2_largestSize_35 : decode cX2_largestSize 35 = .ok (.istore 4, 2) := by decide +kernel
theorem dX2_largestSize_37 : decode cX2_largestSize 37 = .ok (.goto (-32), 3) := by decide +kernel
theorem dX2_largestSize_40 : decode cX2_largestSize 40 = .ok (.iload_n 3, 1) := by decide +kernel
theorem dX2_largestSize_41 : decode cX2_largestSize 41 = .ok (.ireturn, 1) := by decide +kernel
set_option maxRecDepth 20000 in
theorem ggX2_addPlot_X3_isSquare : GoodIn wsX2_addPlot wsX3_isSquare := goodIn_r _ [10] (by decide +kernel) (by decide +kernel)
set_option maxRecDepth 20000 in
theorem gX2_addPlot_X3_isSquare_n66 : GoodIn wsX2_addPlot (wsX3_isSquare) := ggX2_addPlot_X3_isSquare
set_option maxRecDepth 20000 in
theorem ggX2_addPlot_X1_ownerOf : GoodIn wsX2_addPlot wsX1_ownerOf := goodIn_r _ [15, 16, 17, 9, 18, 26, 27, 28, 29, 30, 31, 32, 33] (by decide +kernel) (by decide +kernel)
set_option maxRecDepth 20000 in
theorem gX2_addPlot_X1_ownerOf : GoodIn wsX2_addPlot (wsV RX2 69 RX1 yX1_ownerOf wsX1_ownerOf) := goodIn_app (goodIn_of _ (by decide +kernel)) ggX2_addPlot_X1_ownerOf
theorem dX2_addPlot_0 : decode cX2_addPlot 0 = .ok (.aload_n 0, 1) := by decide +kernel
theorem dX2_addPlot_1 : decode cX2_addPlot 1 = .ok (.getfield 34, 3) := by decide +kernel
theorem dX2_addPlot_4 : decode cX2_addPlot 4 = .ok (.ifCond .lt 22, 3) := by decide +kernel
theorem dX2_addPlot_7 : decode cX2_addPlot 7 = .ok (.aload_n 0, 1) := by decide +kernel
theorem dX2_addPlot_8 : decode cX2_addPlot 8 = .ok (.getfield 34, 3) := by decide +kernel
theorem dX2_addPlot_11 : decode cX2_addPlot 11 = .ok (.sipush 256, 3) := by decide +kernel
theorem dX2_addPlot_14 : decode cX2_addPlot 14 = .ok (.if_icmp .ge 12, 3) := by decide +kernel
theorem dX2_addPlot_17 : decode cX2_addPlot 17 = .ok (.iload_n 1, 1) := by decide +kernel
theorem dX2_addPlot_18 : decode cX2_addPlot 18 = .ok (.iload_n 2, 1) := by decide +kernel
theorem dX2_addPlot_19 : decode cX2_addPlot 19 = .ok (.iload_n 3, 1) := by decide +kernel
theorem dX2_addPlot_20 : decode cX2_addPlot 20 = .ok (.invokestatic 66, 3) := by decide +kernel
theorem dX2_addPlot_23 : decode cX2_addPlot 23 = .ok (.ifCond .ne 4, 3) := by decide +kernel
theorem dX2_addPlot_26 : decode cX2_addPlot 26 = .ok (.return_, 1) := by decide +kernel
theorem dX2_addPlot_27 : decode cX2_addPlot 27 = .ok (.aload_n 0, 1) := by decide +kernel
theorem dX2_addPlot_28 : decode cX2_addPlot 28 = .ok (.getfield 22, 3) := by decide +kernel
theorem dX2_addPlot_31 : decode cX2_addPlot 31 = .ok (.aload_n 0, 1) := by decide +kernel
theorem dX2_addPlot_32 : decode cX2_addPlot 32 = .ok (.getfield 34, 3) := by decide +kernel
theorem dX2_addPlot_35 : decode cX2_addPlot 35 = .ok (.aload_n 0, 1) := by decide +kernel
theorem dX2_addPlot_36 : decode cX2_addPlot 36 = .ok (.getfield 12, 3) := by decide +kernel
theorem dX2_addPlot_39 : decode cX2_addPlot 39 = .ok (.iload_n 1, 1) := by decide +kernel
theorem dX2_addPlot_40 : decode cX2_addPlot 40 = .ok (.iload_n 2, 1) := by decide +kernel
theorem dX2_addPlot_41 : decode cX2_addPlot 41 = .ok (.invokevirtual 69, 3) := by decide +kernel
theorem dX2_addPlot_44 : decode cX2_addPlot 44 = .ok (.iastore, 1) := by decide +kernel
theorem dX2_addPlot_45 : decode cX2_addPlot 45 = .ok (.aload_n 0, 1) := by decide +kernel
theorem dX2_addPlot_46 : decode cX2_addPlot 46 = .ok (.getfield 25, 3) := by decide +kernel
theorem dX2_addPlot_49 : decode cX2_addPlot 49 = .ok (.aload_n 0, 1) := by decide +kernel
theorem dX2_addPlot_50 : decode cX2_addPlot 50 = .ok (.getfield 34, 3) := by decide +kernel
theorem dX2_addPlot_53 : decode cX2_addPlot 53 = .ok (.iload_n 1, 1) := by decide +kernel
theorem dX2_addPlot_54 : decode cX2_addPlot 54 = .ok (.iastore, 1) := by decide +kernel
theorem dX2_addPlot_55 : decode cX2_addPlot 55 = .ok (.aload_n 0, 1) := by decide +kernel
theorem dX2_addPlot_56 : decode cX2_addPlot 56 = .ok (.getfield 28, 3) := by decide +kernel
theorem dX2_addPlot_59 : decode cX2_addPlot 59 = .ok (.aload_n 0, 1) := by decide +kernel
theorem dX2_addPlot_60 : decode cX2_addPlot 60 = .ok (.getfield 34, 3) := by decide +kernel
theorem dX2_addPlot_63 : decode cX2_addPlot 63 = .ok (.iload_n 2, 1) := by decide +kernel
theorem dX2_addPlot_64 : decode cX2_addPlot 64 = .ok (.iastore, 1) := by decide +kernel
theorem dX2_addPlot_65 : decode cX2_addPlot 65 = .ok (.aload_n 0, 1) := by decide +kernel
theorem dX2_addPlot_66 : decode cX2_addPlot 66 = .ok (.getfield 31, 3) := by decide +kernel
theorem dX2_addPlot_69 : decode cX2_addPlot 69 = .ok (.aload_n 0, 1) := by decide +kernel
theorem dX2_addPlot_70 : decode cX2_addPlot 70 = .ok (.getfield 34, 3) := by decide +kernel
theorem dX2_addPlot_73 : decode cX2_addPlot 73 = .ok (.iload_n 3, 1) := by decide +kernel
theorem dX2_addPlot_74 : decode cX2_addPlot 74 = .ok (.iastore, 1) := by decide +kernel
theorem dX2_addPlot_75 : decode cX2_addPlot 75 = .ok (.iload_n 2, 1) := by decide +kernel
theorem dX2_addPlot_76 : decode cX2_addPlot 76 = .ok (.istore 4, 2) := by decide +kernel
theorem dX2_addPlot_78 : decode cX2_addPlot 78 = .ok (.iload 4, 2) := by decide +kernel
theorem dX2_addPlot_80 : decode cX2_addPlot 80 = .ok (.iload_n 2, 1) := by decide +kernel
theorem dX2_addPlot_81 : decode cX2_addPlot 81 = .ok (.iload_n 3, 1) := by decide +kernel
theorem dX2_addPlot_82 : decode cX2_addPlot 82 = .ok (.iadd, 1) := by decide +kernel
theorem dX2_addPlot_83 : decode cX2_addPlot 83 = .ok (.if_icmp .ge 43, 3) := by decide +kernel
theorem dX2_addPlot_86 : decode cX2_addPlot 86 = .ok (.iload_n 1, 1) := by decide +kernel
theorem dX2_addPlot_87 : decode cX2_addPlot 87 = .ok (.istore 5, 2) := by decide +kernel
theorem dX2_addPlot_89 : decode cX2_addPlot 89 = .ok (.iload 5, 2) := by decide +kernel
theorem dX2_addPlot_91 : decode cX2_addPlot 91 = .ok (.iload_n 1, 1) := by decide +kernel
theorem dX2_addPlot_92 : decode cX2_addPlot 92 = .ok (.iload_n 3, 1) := by decide +kernel
theorem dX2_addPlot_93 : decode cX2_addPlot 93 = .ok (.iadd, 1) := by decide +kernel
theorem dX2_addPlot_94 : decode cX2_addPlot 94 = .ok (.if_icmp .ge 26, 3) := by decide +kernel
theorem dX2_addPlot_97 : decode cX2_addPlot 97 = .ok (.aload_n 0, 1) := by decide +kernel
theorem dX2_addPlot_98 : decode cX2_addPlot 98 = .ok (.getfield 18, 3) := by decide +kernel
theorem dX2_addPlot_101 : decode cX2_addPlot 101 = .ok (.iload 4, 2) := by decide +kernel
theorem dX2_addPlot_103 : decode cX2_addPlot 103 = .ok (.bipush 16, 2) := by decide +kernel
theorem dX2_addPlot_105 : decode cX2_addPlot 105 = .ok (.imul, 1) := by decide +kernel
theorem dX2_addPlot_106 : decode cX2_addPlot 106 = .ok (.iload 5, 2) := by decide +kernel
theorem dX2_addPlot_108 : decode cX2_addPlot 108 = .ok (.iadd, 1) := by decide +kernel
theorem dX2_addPlot_109 : decode cX2_addPlot 109 = .ok (.aload_n 0, 1) := by decide +kernel
theorem dX2_addPlot_110 : decode cX2_addPlot 110 = .ok (.getfield 34, 3) := by decide +kernel
theorem dX2_addPlot_113 : decode cX2_addPlot 113 = .ok (.iastore, 1) := by decide +kernel
theorem dX2_addPlot_114 : decode cX2_addPlot 114 = .ok (.iinc 5 1, 3) := by decide +kernel
theorem dX2_addPlot_117 : decode cX2_addPlot 117 = .ok (.goto (-28), 3) := by decide +kernel
theorem dX2_addPlot_120 : decode cX2_addPlot 120 = .ok (.iinc 4 1, 3) := by decide +kernel
theorem dX2_addPlot_123 : decode cX2_addPlot 123 = .ok (.goto (-45), 3) := by decide +kernel
theorem dX2_addPlot_126 : decode cX2_addPlot 126 = .ok (.aload_n 0, 1) := by decide +kernel
theorem dX2_addPlot_127 : decode cX2_addPlot 127 = .ok (.dup, 1) := by decide +kernel
theorem dX2_addPlot_128 : decode cX2_addPlot 128 = .ok (.getfield 34, 3) := by decide +kernel
theorem dX2_addPlot_131 : decode cX2_addPlot 131 = .ok (.iconst 1, 1) := by decide +kernel
theorem dX2_addPlot_132 : decode cX2_addPlot 132 = .ok (.iadd, 1) := by decide +kernel
theorem dX2_addPlot_133 : decode cX2_addPlot 133 = .ok (.putfield 34, 3) := by decide +kernel
theorem dX2_addPlot_136 : decode cX2_addPlot 136 = .ok (.return_, 1) := by decide +kernel
theorem dX2_count_0 : decode cX2_count 0 = .ok (.aload_n 0, 1) := by decide +kernel
theorem dX2_count_1 : decode cX2_count 1 = .ok (.getfield 34, 3) := by decide +kernel
theorem dX2_count_4 : decode cX2_count 4 = .ok (.ireturn, 1) := by decide +kernel
theorem dX2_isPlot_0 : decode cX2_isPlot 0 = .ok (.iload_n 1, 1) := by decide +kernel
theorem dX2_isPlot_1 : decode cX2_isPlot 1 = .ok (.ifCond .lt 22, 3) := by decide +kernel
theorem dX2_isPlot_4 : decode cX2_isPlot 4 = .ok (.iload_n 1, 1) := by decide +kernel
theorem dX2_isPlot_5 : decode cX2_isPlot 5 = .ok (.aload_n 0, 1) := by decide +kernel
theorem dX2_isPlot_6 : decode cX2_isPlot 6 = .ok (.getfield 34, 3) := by decide +kernel
theorem dX2_isPlot_9 : decode cX2_isPlot 9 = .ok (.if_icmp .ge 14, 3) := by decide +kernel
theorem dX2_isPlot_12 : decode cX2_isPlot 12 = .ok (.iload_n 1, 1) := by decide +kernel
theorem dX2_isPlot_13 : decode cX2_isPlot 13 = .ok (.sipush 256, 3) := by decide +kernel
theorem dX2_isPlot_16 : decode cX2_isPlot 16 = .ok (.if_icmp .ge 7, 3) := by decide +kernel
theorem dX2_isPlot_19 : decode cX2_isPlot 19 = .ok (.iconst 1, 1) := by decide +kernel
theorem dX2_isPlot_20 : decode cX2_isPlot 20 = .ok (.goto 4, 3) := by decide +kernel
theorem dX2_isPlot_23 : decode cX2_isPlot 23 = .ok (.iconst 0, 1) := by decide +kernel
theorem dX2_isPlot_24 : decode cX2_isPlot 24 = .ok (.ireturn, 1) := by decide +kernel
set_option maxRecDepth 20000 in
theorem ggX2_rankAt_X3_isCell : GoodIn wsX2_rankAt wsX3_isCell := goodIn_r _ [4] (by decide +kernel) (by decide +kernel)
set_option maxRecDepth 20000 in
theorem gX2_rankAt_X3_isCell_n72 : GoodIn wsX2_rankAt (wsX3_isCell) := ggX2_rankAt_X3_isCell
theorem dX2_rankAt_0 : decode cX2_rankAt 0 = .ok (.iload_n 1, 1) := by decide +kernel
theorem dX2_rankAt_1 : decode cX2_rankAt 1 = .ok (.iload_n 2, 1) := by decide +kernel
theorem dX2_rankAt_2 : decode cX2_rankAt 2 = .ok (.invokestatic 72, 3) := by decide +kernel
theorem dX2_rankAt_5 : decode cX2_rankAt 5 = .ok (.ifCond .eq 17, 3) := by decide +kernel
theorem dX2_rankAt_8 : decode cX2_rankAt 8 = .ok (.aload_n 0, 1) := by decide +kernel
theorem dX2_rankAt_9 : decode cX2_rankAt 9 = .ok (.getfield 18, 3) := by decide +kernel
theorem dX2_rankAt_12 : decode cX2_rankAt 12 = .ok (.iload_n 2, 1) := by decide +kernel
theorem dX2_rankAt_13 : decode cX2_rankAt 13 = .ok (.bipush 16, 2) := by decide +kernel
theorem dX2_rankAt_15 : decode cX2_rankAt 15 = .ok (.imul, 1) := by decide +kernel
theorem dX2_rankAt_16 : decode cX2_rankAt 16 = .ok (.iload_n 1, 1) := by decide +kernel
theorem dX2_rankAt_17 : decode cX2_rankAt 17 = .ok (.iadd, 1) := by decide +kernel
theorem dX2_rankAt_18 : decode cX2_rankAt 18 = .ok (.iaload, 1) := by decide +kernel
theorem dX2_rankAt_19 : decode cX2_rankAt 19 = .ok (.goto 4, 3) := by decide +kernel
theorem dX2_rankAt_22 : decode cX2_rankAt 22 = .ok (.iconst (-1), 1) := by decide +kernel
theorem dX2_rankAt_23 : decode cX2_rankAt 23 = .ok (.ireturn, 1) := by decide +kernel
set_option maxRecDepth 20000 in
theorem ggX2_cornerX_X2_isPlot : GoodIn wsX2_cornerX wsX2_isPlot := goodIn_r _ [6, 7, 8, 9, 10, 11, 12, 13, 14] (by decide +kernel) (by decide +kernel)
set_option maxRecDepth 20000 in
theorem gX2_cornerX_X2_isPlot : GoodIn wsX2_cornerX (wsV RX2 76 RX2 yX2_isPlot wsX2_isPlot) := goodIn_app (goodIn_of _ (by decide +kernel)) ggX2_cornerX_X2_isPlot
theorem dX2_cornerX_0 : decode cX2_cornerX 0 = .ok (.aload_n 0, 1) := by decide +kernel
theorem dX2_cornerX_1 : decode cX2_cornerX 1 = .ok (.iload_n 1, 1) := by decide +kernel
theorem dX2_cornerX_2 : decode cX2_cornerX 2 = .ok (.invokevirtual 76, 3) := by decide +kernel
theorem dX2_cornerX_5 : decode cX2_cornerX 5 = .ok (.ifCond .eq 12, 3) := by decide +kernel
theorem dX2_cornerX_8 : decode cX2_cornerX 8 = .ok (.aload_n 0, 1) := by decide +kernel
theorem dX2_cornerX_9 : decode cX2_cornerX 9 = .ok (.getfield 25, 3) := by decide +kernel
theorem dX2_cornerX_12 : decode cX2_cornerX 12 = .ok (.iload_n 1, 1) := by decide +kernel
theorem dX2_cornerX_13 : decode cX2_cornerX 13 = .ok (.iaload, 1) := by decide +kernel
theorem dX2_cornerX_14 : decode cX2_cornerX 14 = .ok (.goto 4, 3) := by decide +kernel
theorem dX2_cornerX_17 : decode cX2_cornerX 17 = .ok (.iconst (-1), 1) := by decide +kernel
theorem dX2_cornerX_18 : decode cX2_cornerX 18 = .ok (.ireturn, 1) := by decide +kernel
set_option maxRecDepth 20000 in
theorem ggX2_cornerY_X2_isPlot : GoodIn wsX2_cornerY wsX2_isPlot := goodIn_r _ [6, 7, 8, 9, 10, 11, 12, 13, 14] (by decide +kernel) (by decide +kernel)
set_option maxRecDepth 20000 in
theorem gX2_cornerY_X2_isPlot : GoodIn wsX2_cornerY (wsV RX2 76 RX2 yX2_isPlot wsX2_isPlot) := goodIn_app (goodIn_of _ (by decide +kernel)) ggX2_cornerY_X2_isPlot
theorem dX2_cornerY_0 : decode cX2_cornerY 0 = .ok (.aload_n 0, 1) := by decide +kernel
theorem dX2_cornerY_1 : decode cX2_cornerY 1 = .ok (.iload_n 1, 1) := by decide +kernel
theorem dX2_cornerY_2 : decode cX2_cornerY 2 = .ok (.invokevirtual 76, 3) := by decide +kernel
theorem dX2_cornerY_5 : decode cX2_cornerY 5 = .ok (.ifCond .eq 12, 3) := by decide +kernel
theorem dX2_cornerY_8 : decode cX2_cornerY 8 = .ok (.aload_n 0, 1) := by decide +kernel
theorem dX2_cornerY_9 : decode cX2_cornerY 9 = .ok (.getfield 28, 3) := by decide +kernel
theorem dX2_cornerY_12 : decode cX2_cornerY 12 = .ok (.iload_n 1, 1) := by decide +kernel
theorem dX2_cornerY_13 : decode cX2_cornerY 13 = .ok (.iaload, 1) := by decide +kernel
theorem dX2_cornerY_14 : decode cX2_cornerY 14 = .ok (.goto 4, 3) := by decide +kernel
theorem dX2_cornerY_17 : decode cX2_cornerY 17 = .ok (.iconst (-1), 1) := by decide +kernel
theorem dX2_cornerY_18 : decode cX2_cornerY 18 = .ok (.ireturn, 1) := by decide +kernel
set_option maxRecDepth 20000 in
theorem ggX2_sizeOf_X2_isPlot : GoodIn wsX2_sizeOf wsX2_isPlot := goodIn_r _ [6, 7, 8, 9, 10, 11, 12, 13, 14] (by decide +kernel) (by decide +kernel)
set_option maxRecDepth 20000 in
theorem gX2_sizeOf_X2_isPlot : GoodIn wsX2_sizeOf (wsV RX2 76 RX2 yX2_isPlot wsX2_isPlot) := goodIn_app (goodIn_of _ (by decide +kernel)) ggX2_sizeOf_X2_isPlot
theorem dX2_sizeOf_0 : decode cX2_sizeOf 0 = .ok (.aload_n 0, 1) := by decide +kernel
theorem dX2_sizeOf_1 : decode cX2_sizeOf 1 = .ok (.iload_n 1, 1) := by decide +kernel
theorem dX2_sizeOf_2 : decode cX2_sizeOf 2 = .ok (.invokevirtual 76, 3) := by decide +kernel
theorem dX2_sizeOf_5 : decode cX2_sizeOf 5 = .ok (.ifCond .eq 12, 3) := by decide +kernel
theorem dX2_sizeOf_8 : decode cX2_sizeOf 8 = .ok (.aload_n 0, 1) := by decide +kernel
theorem dX2_sizeOf_9 : decode cX2_sizeOf 9 = .ok (.getfield 31, 3) := by decide +kernel
theorem dX2_sizeOf_12 : decode cX2_sizeOf 12 = .ok (.iload_n 1, 1) := by decide +kernel
theorem dX2_sizeOf_13 : decode cX2_sizeOf 13 = .ok (.iaload, 1) := by decide +kernel
theorem dX2_sizeOf_14 : decode cX2_sizeOf 14 = .ok (.goto 4, 3) := by decide +kernel
theorem dX2_sizeOf_17 : decode cX2_sizeOf 17 = .ok (.iconst 0, 1) := by decide +kernel
theorem dX2_sizeOf_18 : decode cX2_sizeOf 18 = .ok (.ireturn, 1) := by decide +kernel
set_option maxRecDepth 20000 in
theorem ggX2_ownerOf_X2_isPlot : GoodIn wsX2_ownerOf wsX2_isPlot := goodIn_r _ [6, 7, 8, 9, 10, 11, 12, 13, 14] (by decide +kernel) (by decide +kernel)
set_option maxRecDepth 20000 in
theorem gX2_ownerOf_X2_isPlot : GoodIn wsX2_ownerOf (wsV RX2 76 RX2 yX2_isPlot wsX2_isPlot) := goodIn_app (goodIn_of _ (by decide +kernel)) ggX2_ownerOf_X2_isPlot
theorem dX2_ownerOf_0 : decode cX2_ownerOf 0 = .ok (.aload_n 0, 1) := by decide +kernel
theorem dX2_ownerOf_1 : decode cX2_ownerOf 1 = .ok (.iload_n 1, 1) := by decide +kernel
theorem dX2_ownerOf_2 : decode cX2_ownerOf 2 = .ok (.invokevirtual 76, 3) := by decide +kernel
theorem dX2_ownerOf_5 : decode cX2_ownerOf 5 = .ok (.ifCond .eq 12, 3) := by decide +kernel
theorem dX2_ownerOf_8 : decode cX2_ownerOf 8 = .ok (.aload_n 0, 1) := by decide +kernel
theorem dX2_ownerOf_9 : decode cX2_ownerOf 9 = .ok (.getfield 22, 3) := by decide +kernel
theorem dX2_ownerOf_12 : decode cX2_ownerOf 12 = .ok (.iload_n 1, 1) := by decide +kernel
theorem dX2_ownerOf_13 : decode cX2_ownerOf 13 = .ok (.iaload, 1) := by decide +kernel
theorem dX2_ownerOf_14 : decode cX2_ownerOf 14 = .ok (.goto 4, 3) := by decide +kernel
theorem dX2_ownerOf_17 : decode cX2_ownerOf 17 = .ok (.iconst (-1), 1) := by decide +kernel
theorem dX2_ownerOf_18 : decode cX2_ownerOf 18 = .ok (.ireturn, 1) := by decide +kernel
set_option maxRecDepth 20000 in
theorem ggX2_markCommon_X2_isPlot : GoodIn wsX2_markCommon wsX2_isPlot := goodIn_r _ [6, 7, 8, 9, 10, 11, 12, 13, 14] (by decide +kernel) (by decide +kernel)
set_option maxRecDepth 20000 in
theorem gX2_markCommon_X2_isPlot : GoodIn wsX2_markCommon (wsV RX2 76 RX2 yX2_isPlot wsX2_isPlot) := goodIn_app (goodIn_of _ (by decide +kernel)) ggX2_markCommon_X2_isPlot
theorem dX2_markCommon_0 : decode cX2_markCommon 0 = .ok (.aload_n 0, 1) := by decide +kernel
theorem dX2_markCommon_1 : decode cX2_markCommon 1 = .ok (.iload_n 1, 1) := by decide +kernel
theorem dX2_markCommon_2 : decode cX2_markCommon 2 = .ok (.invokevirtual 76, 3) := by decide +kernel
theorem dX2_markCommon_5 : decode cX2_markCommon 5 = .ok (.ifCond .eq 10, 3) := by decide +kernel
theorem dX2_markCommon_8 : decode cX2_markCommon 8 = .ok (.aload_n 0, 1) := by decide +kernel
theorem dX2_markCommon_9 : decode cX2_markCommon 9 = .ok (.getfield 22, 3) := by decide +kernel
theorem dX2_markCommon_12 : decode cX2_markCommon 12 = .ok (.iload_n 1, 1) := by decide +kernel
theorem dX2_markCommon_13 : decode cX2_markCommon 13 = .ok (.iconst 0, 1) := by decide +kernel
theorem dX2_markCommon_14 : decode cX2_markCommon 14 = .ok (.iastore, 1) := by decide +kernel
theorem dX2_markCommon_15 : decode cX2_markCommon 15 = .ok (.return_, 1) := by decide +kernel
theorem dX2_countOf_0 : decode cX2_countOf 0 = .ok (.iconst 0, 1) := by decide +kernel
theorem dX2_countOf_1 : decode cX2_countOf 1 = .ok (.istore_n 2, 1) := by decide +kernel
theorem dX2_countOf_2 : decode cX2_countOf 2 = .ok (.iconst 0, 1) := by decide +kernel
theorem dX2_countOf_3 : decode cX2_countOf 3 = .ok (.istore_n 3, 1) := by decide +kernel
theorem dX2_countOf_4 : decode cX2_countOf 4 = .ok (.iload_n 3, 1) := by decide +kernel
theorem dX2_countOf_5 : decode cX2_countOf 5 = .ok (.aload_n 0, 1) := by decide +kernel
theorem dX2_countOf_6 : decode cX2_countOf 6 = .ok (.getfield 34, 3) := by decide +kernel
theorem dX2_countOf_9 : decode cX2_countOf 9 = .ok (.if_icmp .ge 29, 3) := by decide +kernel
theorem dX2_countOf_12 : decode cX2_countOf 12 = .ok (.iload_n 3, 1) := by decide +kernel
theorem dX2_countOf_13 : decode cX2_countOf 13 = .ok (.sipush 256, 3) := by decide +kernel
theorem dX2_countOf_16 : decode cX2_countOf 16 = .ok (.if_icmp .ge 22, 3) := by decide +kernel
theorem dX2_countOf_19 : decode cX2_countOf 19 = .ok (.aload_n 0, 1) := by decide +kernel
theorem dX2_countOf_20 : decode cX2_countOf 20 = .ok (.getfield 22, 3) := by decide +kernel
theorem dX2_countOf_23 : decode cX2_countOf 23 = .ok (.iload_n 3, 1) := by decide +kernel
theorem dX2_countOf_24 : decode cX2_countOf 24 = .ok (.iaload, 1) := by decide +kernel
theorem dX2_countOf_25 : decode cX2_countOf 25 = .ok (.iload_n 1, 1) := by decide +kernel
theorem dX2_countOf_26 : decode cX2_countOf 26 = .ok (.if_icmp .ne 6, 3) := by decide +kernel
theorem dX2_countOf_29 : decode cX2_countOf 29 = .ok (.iinc 2 1, 3) := by decide +kernel
theorem dX2_countOf_32 : decode cX2_countOf 32 = .ok (.iinc 3 1, 3) := by decide +kernel
theorem dX2_countOf_35 : decode cX2_countOf 35 = .ok (.goto (-31), 3) := by decide +kernel
theorem dX2_countOf_38 : decode cX2_countOf 38 = .ok (.iload_n 2, 1) := by decide +kernel
theorem dX2_countOf_39 : decode cX2_countOf 39 = .ok (.ireturn, 1) := by decide +kernel
theorem dX2_areaOf_0 : decode cX2_areaOf 0 = .ok (.iconst 0, 1) := by decide +kernel
theorem dX2_areaOf_1 : decode cX2_areaOf 1 = .ok (.istore_n 2, 1) := by decide +kernel
theorem dX2_areaOf_2 : decode cX2_areaOf 2 = .ok (.iconst 0, 1) := by decide +kernel
theorem dX2_areaOf_3 : decode cX2_areaOf 3 = .ok (.istore_n 3, 1) := by decide +kernel
theorem dX2_areaOf_4 : decode cX2_areaOf 4 = .ok (.iload_n 3, 1) := by decide +kernel
theorem dX2_areaOf_5 : decode cX2_areaOf 5 = .ok (.aload_n 0, 1) := by decide +kernel
theorem dX2_areaOf_6 : decode cX2_areaOf 6 = .ok (.getfield 34, 3) := by decide +kernel
theorem dX2_areaOf_9 : decode cX2_areaOf 9 = .ok (.if_icmp .ge 42, 3) := by decide +kernel
theorem dX2_areaOf_12 : decode cX2_areaOf 12 = .ok (.iload_n 3, 1) := by decide +kernel
theorem dX2_areaOf_13 : decode cX2_areaOf 13 = .ok (.sipush 256, 3) := by decide +kernel
theorem dX2_areaOf_16 : decode cX2_areaOf 16 = .ok (.if_icmp .ge 35, 3) := by decide +kernel
theorem dX2_areaOf_19 : decode cX2_areaOf 19 = .ok (.aload_n 0, 1) := by decide +kernel
theorem dX2_areaOf_20 : decode cX2_areaOf 20 = .ok (.getfield 22, 3) := by decide +kernel
theorem dX2_areaOf_23 : decode cX2_areaOf 23 = .ok (.iload_n 3, 1) := by decide +kernel
theorem dX2_areaOf_24 : decode cX2_areaOf 24 = .ok (.iaload, 1) := by decide +kernel
theorem dX2_areaOf_25 : decode cX2_areaOf 25 = .ok (.iload_n 1, 1) := by decide +kernel
theorem dX2_areaOf_26 : decode cX2_areaOf 26 = .ok (.if_icmp .ne 19, 3) := by decide +kernel
theorem dX2_areaOf_29 : decode cX2_areaOf 29 = .ok (.iload_n 2, 1) := by decide +kernel
theorem dX2_areaOf_30 : decode cX2_areaOf 30 = .ok (.aload_n 0, 1) := by decide +kernel
theorem dX2_areaOf_31 : decode cX2_areaOf 31 = .ok (.getfield 31, 3) := by decide +kernel
theorem dX2_areaOf_34 : decode cX2_areaOf 34 = .ok (.iload_n 3, 1) := by decide +kernel
theorem dX2_areaOf_35 : decode cX2_areaOf 35 = .ok (.iaload, 1) := by decide +kernel
theorem dX2_areaOf_36 : decode cX2_areaOf 36 = .ok (.aload_n 0, 1) := by decide +kernel
theorem dX2_areaOf_37 : decode cX2_areaOf 37 = .ok (.getfield 31, 3) := by decide +kernel
theorem dX2_areaOf_40 : decode cX2_areaOf 40 = .ok (.iload_n 3, 1) := by decide +kernel
theorem dX2_areaOf_41 : decode cX2_areaOf 41 = .ok (.iaload, 1) := by decide +kernel
theorem dX2_areaOf_42 : decode cX2_areaOf 42 = .ok (.imul, 1) := by decide +kernel
theorem dX2_areaOf_43 : decode cX2_areaOf 43 = .ok (.iadd, 1) := by decide +kernel
theorem dX2_areaOf_44 : decode cX2_areaOf 44 = .ok (.istore_n 2, 1) := by decide +kernel
theorem dX2_areaOf_45 : decode cX2_areaOf 45 = .ok (.iinc 3 1, 3) := by decide +kernel
theorem dX2_areaOf_48 : decode cX2_areaOf 48 = .ok (.goto (-44), 3) := by decide +kernel
theorem dX2_areaOf_51 : decode cX2_areaOf 51 = .ok (.iload_n 2, 1) := by decide +kernel
theorem dX2_areaOf_52 : decode cX2_areaOf 52 = .ok (.ireturn, 1) := by decide +kernel
set_option maxRecDepth 20000 in
theorem ggX2_fenceOf_X2_fenceRound : GoodIn wsX2_fenceOf wsX2_fenceRound := goodIn_r _ [10, 11, 12, 13, 9, 14, 15, 16, 17, 18, 19, 20, 21, 22, 23, 24, 25, 26, 27, 28, 29, 30, 31, 32, 33, 34, 35, 36, 37, 38, 39] (by decide +kernel) (by decide +kernel)
set_option maxRecDepth 20000 in
theorem gX2_fenceOf_X2_fenceRound : GoodIn wsX2_fenceOf (wsV RX2 80 RX2 yX2_fenceRound wsX2_fenceRound) := goodIn_app (goodIn_of _ (by decide +kernel)) ggX2_fenceOf_X2_fenceRound
theorem dX2_fenceOf_0 : decode cX2_fenceOf 0 = .ok (.iconst 0, 1) := by decide +kernel
theorem dX2_fenceOf_1 : decode cX2_fenceOf 1 = .ok (.istore_n 2, 1) := by decide +kernel
theorem dX2_fenceOf_2 : decode cX2_fenceOf 2 = .ok (.iconst 0, 1) := by decide +kernel
theorem dX2_fenceOf_3 : decode cX2_fenceOf 3 = .ok (.istore_n 3, 1) := by decide +kernel
theorem dX2_fenceOf_4 : decode cX2_fenceOf 4 = .ok (.iload_n 3, 1) := by decide +kernel
theorem dX2_fenceOf_5 : decode cX2_fenceOf 5 = .ok (.aload_n 0, 1) := by decide +kernel
theorem dX2_fenceOf_6 : decode cX2_fenceOf 6 = .ok (.getfield 34, 3) := by decide +kernel
theorem dX2_fenceOf_9 : decode cX2_fenceOf 9 = .ok (.if_icmp .ge 52, 3) := by decide +kernel
theorem dX2_fenceOf_12 : decode cX2_fenceOf 12 = .ok (.iload_n 3, 1) := by decide +kernel
theorem dX2_fenceOf_13 : decode cX2_fenceOf 13 = .ok (.sipush 256, 3) := by decide +kernel
theorem dX2_fenceOf_16 : decode cX2_fenceOf 16 = .ok (.if_icmp .ge 45, 3) := by decide +kernel
theorem dX2_fenceOf_19 : decode cX2_fenceOf 19 = .ok (.aload_n 0, 1) := by decide +kernel
theorem dX2_fenceOf_20 : decode cX2_fenceOf 20 = .ok (.getfield 22, 3) := by decide +kernel
theorem dX2_fenceOf_23 : decode cX2_fenceOf 23 = .ok (.iload_n 3, 1) := by decide +kernel
theorem dX2_fenceOf_24 : decode cX2_fenceOf 24 = .ok (.iaload, 1) := by decide +kernel
theorem dX2_fenceOf_25 : decode cX2_fenceOf 25 = .ok (.iload_n 1, 1) := by decide +kernel
theorem dX2_fenceOf_26 : decode cX2_fenceOf 26 = .ok (.if_icmp .ne 29, 3) := by decide +kernel
theorem dX2_fenceOf_29 : decode cX2_fenceOf 29 = .ok (.iload_n 2, 1) := by decide +kernel
theorem dX2_fenceOf_30 : decode cX2_fenceOf 30 = .ok (.aload_n 0, 1) := by decide +kernel
theorem dX2_fenceOf_31 : decode cX2_fenceOf 31 = .ok (.aload_n 0, 1) := by decide +kernel
theorem dX2_fenceOf_32 : decode cX2_fenceOf 32 = .ok (.getfield 25, 3) := by decide +kernel
theorem dX2_fenceOf_35 : decode cX2_fenceOf 35 = .ok (.iload_n 3, 1) := by decide +kernel
theorem dX2_fenceOf_36 : decode cX2_fenceOf 36 = .ok (.iaload, 1) := by decide +kernel
theorem dX2_fenceOf_37 : decode cX2_fenceOf 37 = .ok (.aload_n 0, 1) := by decide +kernel
theorem dX2_fenceOf_38 : decode cX2_fenceOf 38 = .ok (.getfield 28, 3) := by decide +kernel
theorem dX2_fenceOf_41 : decode cX2_fenceOf 41 = .ok (.iload_n 3, 1) := by decide +kernel
theorem dX2_fenceOf_42 : decode cX2_fenceOf 42 = .ok (.iaload, 1) := by decide +kernel
theorem dX2_fenceOf_43 : decode cX2_fenceOf 43 = .ok (.aload_n 0, 1) := by decide +kernel
theorem dX2_fenceOf_44 : decode cX2_fenceOf 44 = .ok (.getfield 31, 3) := by decide +kernel
theorem dX2_fenceOf_47 : decode cX2_fenceOf 47 = .ok (.iload_n 3, 1) := by decide +kernel
theorem dX2_fenceOf_48 : decode cX2_fenceOf 48 = .ok (.iaload, 1) := by decide +kernel
theorem dX2_fenceOf_49 : decode cX2_fenceOf 49 = .ok (.iload_n 1, 1) := by decide +kernel
theorem dX2_fenceOf_50 : decode cX2_fenceOf 50 = .ok (.invokevirtual 80, 3) := by decide +kernel
theorem dX2_fenceOf_53 : decode cX2_fenceOf 53 = .ok (.iadd, 1) := by decide +kernel
theorem dX2_fenceOf_54 : decode cX2_fenceOf 54 = .ok (.istore_n 2, 1) := by decide +kernel
theorem dX2_fenceOf_55 : decode cX2_fenceOf 55 = .ok (.iinc 3 1, 3) := by decide +kernel
theorem dX2_fenceOf_58 : decode cX2_fenceOf 58 = .ok (.goto (-54), 3) := by decide +kernel
theorem dX2_fenceOf_61 : decode cX2_fenceOf 61 = .ok (.iload_n 2, 1) := by decide +kernel
theorem dX2_fenceOf_62 : decode cX2_fenceOf 62 = .ok (.ireturn, 1) := by decide +kernel
set_option maxRecDepth 20000 in
theorem ggX2_fenceRound_X2_fenceTowards : GoodIn wsX2_fenceRound wsX2_fenceTowards := goodIn_r _ [5, 6, 7, 8, 9, 10, 11, 12, 13, 14, 15, 16, 17, 18, 19, 20, 21, 22, 23, 24, 25, 26, 27, 28, 29, 30] (by decide +kernel) (by decide +kernel)
set_option maxRecDepth 20000 in
theorem gX2_fenceRound_X2_fenceTowards : GoodIn wsX2_fenceRound (wsV RX2 84 RX2 yX2_fenceTowards wsX2_fenceTowards) := goodIn_app (goodIn_of _ (by decide +kernel)) ggX2_fenceRound_X2_fenceTowards
theorem dX2_fenceRound_0 : decode cX2_fenceRound 0 = .ok (.iconst 0, 1) := by decide +kernel
theorem dX2_fenceRound_1 : decode cX2_fenceRound 1 = .ok (.istore 5, 2) := by decide +kernel
theorem dX2_fenceRound_3 : decode cX2_fenceRound 3 = .ok (.iconst 0, 1) := by decide +kernel
theorem dX2_fenceRound_4 : decode cX2_fenceRound 4 = .ok (.istore 6, 2) := by decide +kernel
theorem dX2_fenceRound_6 : decode cX2_fenceRound 6 = .ok (.iload 6, 2) := by decide +kernel
theorem dX2_fenceRound_8 : decode cX2_fenceRound 8 = .ok (.iload_n 3, 1) := by decide +kernel
theorem dX2_fenceRound_9 : decode cX2_fenceRound 9 = .ok (.if_icmp .ge 81, 3) := by decide +kernel
theorem dX2_fenceRound_12 : decode cX2_fenceRound 12 = .ok (.iload 5, 2) := by decide +kernel
theorem dX2_fenceRound_14 : decode cX2_fenceRound 14 = .ok (.aload_n 0, 1) := by decide +kernel
theorem dX2_fenceRound_15 : decode cX2_fenceRound 15 = .ok (.iload_n 1, 1) := by decide +kernel
theorem dX2_fenceRound_16 : decode cX2_fenceRound 16 = .ok (.iload 6, 2) := by decide +kernel
theorem dX2_fenceRound_18 : decode cX2_fenceRound 18 = .ok (.iadd, 1) := by decide +kernel
theorem dX2_fenceRound_19 : decode cX2_fenceRound 19 = .ok (.iload_n 2, 1) := by decide +kernel
theorem dX2_fenceRound_20 : decode cX2_fenceRound 20 = .ok (.iconst 1, 1) := by decide +kernel
theorem dX2_fenceRound_21 : decode cX2_fenceRound 21 = .ok (.isub, 1) := by decide +kernel
theorem dX2_fenceRound_22 : decode cX2_fenceRound 22 = .ok (.iload 4, 2) := by decide +kernel
theorem dX2_fenceRound_24 : decode cX2_fenceRound 24 = .ok (.invokevirtual 84, 3) := by decide +kernel
theorem dX2_fenceRound_27 : decode cX2_fenceRound 27 = .ok (.iadd, 1) := by decide +kernel
theorem dX2_fenceRound_28 : decode cX2_fenceRound 28 = .ok (.istore 5, 2) := by decide +kernel
theorem dX2_fenceRound_30 : decode cX2_fenceRound 30 = .ok (.iload 5, 2) := by decide +kernel
theorem dX2_fenceRound_32 : decode cX2_fenceRound 32 = .ok (.aload_n 0, 1) := by decide +kernel
theorem dX2_fenceRound_33 : decode cX2_fenceRound 33 = .ok (.iload_n 1, 1) := by decide +kernel
theorem dX2_fenceRound_34 : decode cX2_fenceRound 34 = .ok (.iload 6, 2) := by decide +kernel
theorem dX2_fenceRound_36 : decode cX2_fenceRound 36 = .ok (.iadd, 1) := by decide +kernel
theorem dX2_fenceRound_37 : decode cX2_fenceRound 37 = .ok (.iload_n 2, 1) := by decide +kernel
theorem dX2_fenceRound_38 : decode cX2_fenceRound 38 = .ok (.iload_n 3, 1) := by decide +kernel
theorem dX2_fenceRound_39 : decode cX2_fenceRound 39 = .ok (.iadd, 1) := by decide +kernel
theorem dX2_fenceRound_40 : decode cX2_fenceRound 40 = .ok (.iload 4, 2) := by decide +kernel
theorem dX2_fenceRound_42 : decode cX2_fenceRound 42 = .ok (.invokevirtual 84, 3) := by decide +kernel
theorem dX2_fenceRound_45 : decode cX2_fenceRound 45 = .ok (.iadd, 1) := by decide +kernel
theorem dX2_fenceRound_46 : decode cX2_fenceRound 46 = .ok (.istore 5, 2) := by decide +kernel
theorem dX2_fenceRound_48 : decode cX2_fenceRound 48 = .ok (.iload 5, 2) := by decide +kernel
theorem dX2_fenceRound_50 : decode cX2_fenceRound 50 = .ok (.aload_n 0, 1) := by decide +kernel
theorem dX2_fenceRound_51 : decode cX2_fenceRound 51 = .ok (.iload_n 1, 1) := by decide +kernel
theorem dX2_fenceRound_52 : decode cX2_fenceRound 52 = .ok (.iconst 1, 1) := by decide +kernel
theorem dX2_fenceRound_53 : decode cX2_fenceRound 53 = .ok (.isub, 1) := by decide +kernel
theorem dX2_fenceRound_54 : decode cX2_fenceRound 54 = .ok (.iload_n 2, 1) := by decide +kernel
theorem dX2_fenceRound_55 : decode cX2_fenceRound 55 = .ok (.iload 6, 2) := by decide +kernel
theorem dX2_fenceRound_57 : decode cX2_fenceRound 57 = .ok (.iadd, 1) := by decide +kernel
theorem dX2_fenceRound_58 : decode cX2_fenceRound 58 = .ok (.iload 4, 2) := by decide +kernel
theorem dX2_fenceRound_60 : decode cX2_fenceRound 60 = .ok (.invokevirtual 84, 3) := by decide +kernel
theorem dX2_fenceRound_63 : decode cX2_fenceRound 63 = .ok (.iadd, 1) := by decide +kernel
theorem dX2_fenceRound_64 : decode cX2_fenceRound 64 = .ok (.istore 5, 2) := by decide +kernel
theorem dX2_fenceRound_66 : decode cX2_fenceRound 66 = .ok (.iload 5, 2) := by decide +kernel
theorem dX2_fenceRound_68 : decode cX2_fenceRound 68 = .ok (.aload_n 0, 1) := by decide +kernel
theorem dX2_fenceRound_69 : decode cX2_fenceRound 69 = .ok (.iload_n 1, 1) := by decide +kernel
theorem dX2_fenceRound_70 : decode cX2_fenceRound 70 = .ok (.iload_n 3, 1) := by decide +kernel
theorem dX2_fenceRound_71 : decode cX2_fenceRound 71 = .ok (.iadd, 1) := by decide +kernel
theorem dX2_fenceRound_72 : decode cX2_fenceRound 72 = .ok (.iload_n 2, 1) := by decide +kernel
theorem dX2_fenceRound_73 : decode cX2_fenceRound 73 = .ok (.iload 6, 2) := by decide +kernel
theorem dX2_fenceRound_75 : decode cX2_fenceRound 75 = .ok (.iadd, 1) := by decide +kernel
theorem dX2_fenceRound_76 : decode cX2_fenceRound 76 = .ok (.iload 4, 2) := by decide +kernel
theorem dX2_fenceRound_78 : decode cX2_fenceRound 78 = .ok (.invokevirtual 84, 3) := by decide +kernel
theorem dX2_fenceRound_81 : decode cX2_fenceRound 81 = .ok (.iadd, 1) := by decide +kernel
theorem dX2_fenceRound_82 : decode cX2_fenceRound 82 = .ok (.istore 5, 2) := by decide +kernel
theorem dX2_fenceRound_84 : decode cX2_fenceRound 84 = .ok (.iinc 6 1, 3) := by decide +kernel
theorem dX2_fenceRound_87 : decode cX2_fenceRound 87 = .ok (.goto (-81), 3) := by decide +kernel
theorem dX2_fenceRound_90 : decode cX2_fenceRound 90 = .ok (.iload 5, 2) := by decide +kernel
theorem dX2_fenceRound_92 : decode cX2_fenceRound 92 = .ok (.ireturn, 1) := by decide +kernel
set_option maxRecDepth 20000 in
theorem ggX2_fenceTowards_X1_ownerOf : GoodIn wsX2_fenceTowards wsX1_ownerOf := goodIn_r _ [6, 7, 8, 9, 10, 18, 19, 20, 21, 22, 23, 24, 25] (by decide +kernel) (by decide +kernel)
set_option maxRecDepth 20000 in
theorem gX2_fenceTowards_X1_ownerOf : GoodIn wsX2_fenceTowards (wsV RX2 69 RX1 yX1_ownerOf wsX1_ownerOf) := goodIn_app (goodIn_of _ (by decide +kernel)) ggX2_fenceTowards_X1_ownerOf
theorem dX2_fenceTowards_0 : decode cX2_fenceTowards 0 = .ok (.aload_n 0, 1) := by decide +kernel
theorem dX2_fenceTowards_1 : decode cX2_fenceTowards 1 = .ok (.getfield 12, 3) := by decide +kernel
theorem dX2_fenceTowards_4 : decode cX2_fenceTowards 4 = .ok (.iload_n 1, 1) := by decide +kernel
theorem dX2_fenceTowards_5 : decode cX2_fenceTowards 5 = .ok (.iload_n 2, 1) := by decide +kernel
theorem dX2_fenceTowards_6 : decode cX2_fenceTowards 6 = .ok (.invokevirtual 69, 3) := by decide +kernel
theorem dX2_fenceTowards_9 : decode cX2_fenceTowards 9 = .ok (.istore 4, 2) := by decide +kernel
theorem dX2_fenceTowards_11 : decode cX2_fenceTowards 11 = .ok (.iload 4, 2) := by decide +kernel
theorem dX2_fenceTowards_13 : decode cX2_fenceTowards 13 = .ok (.iconst (-1), 1) := by decide +kernel
theorem dX2_fenceTowards_14 : decode cX2_fenceTowards 14 = .ok (.if_icmp .eq 13, 3) := by decide +kernel
theorem dX2_fenceTowards_17 : decode cX2_fenceTowards 17 = .ok (.iload 4, 2) := by decide +kernel
theorem dX2_fenceTowards_19 : decode cX2_fenceTowards 19 = .ok (.iload_n 3, 1) := by decide +kernel
theorem dX2_fenceTowards_20 : decode cX2_fenceTowards 20 = .ok (.if_icmp .eq 7, 3) := by decide +kernel
theorem dX2_fenceTowards_23 : decode cX2_fenceTowards 23 = .ok (.iconst 1, 1) := by decide +kernel
theorem dX2_fenceTowards_24 : decode cX2_fenceTowards 24 = .ok (.goto 4, 3) := by decide +kernel
theorem dX2_fenceTowards_27 : decode cX2_fenceTowards 27 = .ok (.iconst 0, 1) := by decide +kernel
theorem dX2_fenceTowards_28 : decode cX2_fenceTowards 28 = .ok (.ireturn, 1) := by decide +kernel
theorem dX2_firstLargest_0 : decode cX2_firstLargest 0 = .ok (.iconst (-1), 1) := by decide +kernel
theorem dX2_firstLargest_1 : decode cX2_firstLargest 1 = .ok (.istore_n 2, 1) := by decide +kernel
theorem dX2_firstLargest_2 : decode cX2_firstLargest 2 = .ok (.iconst 0, 1) := by decide +kernel
theorem dX2_firstLargest_3 : decode cX2_firstLargest 3 = .ok (.istore_n 3, 1) := by decide +kernel
theorem dX2_firstLargest_4 : decode cX2_firstLargest 4 = .ok (.iconst 0, 1) := by decide +kernel
theorem dX2_firstLargest_5 : decode cX2_firstLargest 5 = .ok (.istore 4, 2) := by decide +kernel
theorem dX2_firstLargest_7 : decode cX2_firstLargest 7 = .ok (.iload 4, 2) := by decide +kernel
theorem dX2_firstLargest_9 : decode cX2_firstLargest 9 = .ok (.aload_n 0, 1) := by decide +kernel
theorem dX2_firstLargest_10 : decode cX2_firstLargest 10 = .ok (.getfield 34, 3) := by decide +kernel
theorem dX2_firstLargest_13 : decode cX2_firstLargest 13 = .ok (.if_icmp .ge 50, 3) := by decide +kernel
theorem dX2_firstLargest_16 : decode cX2_firstLargest 16 = .ok (.iload 4, 2) := by decide +kernel
theorem dX2_firstLargest_18 : decode cX2_firstLargest 18 = .ok (.sipush 256, 3) := by decide +kernel
theorem dX2_firstLargest_21 : decode cX2_firstLargest 21 = .ok (.if_icmp .ge 42, 3) := by decide +kernel
theorem dX2_firstLargest_24 : decode cX2_firstLargest 24 = .ok (.aload_n 0, 1) := by decide +kernel
theorem dX2_firstLargest_25 : decode cX2_firstLargest 25 = .ok (.getfield 22, 3) := by decide +kernel
theorem dX2_firstLargest_28 : decode cX2_firstLargest 28 = .ok (.iload 4, 2) := by decide +kernel
theorem dX2_firstLargest_30 : decode cX2_firstLargest 30 = .ok (.iaload, 1) := by decide +kernel
theorem dX2_firstLargest_31 : decode cX2_firstLargest 31 = .ok (.iload_n 1, 1) := by decide +kernel
theorem dX2_firstLargest_32 : decode cX2_firstLargest 32 = .ok (.if_icmp .ne 25, 3) := by decide +kernel
theorem dX2_firstLargest_35 : decode cX2_firstLargest 35 = .ok (.aload_n 0, 1) := by decide +kernel
theorem dX2_firstLargest_36 : decode cX2_firstLargest 36 = .ok (.getfield 31, 3) := by decide +kernel
theorem dX2_firstLargest_39 : decode cX2_firstLargest 39 = .ok (.iload 4, 2) := by decide +kernel
theorem dX2_firstLargest_41 : decode cX2_firstLargest 41 = .ok (.iaload, 1) := by decide +kernel
theorem dX2_firstLargest_42 : decode cX2_firstLargest 42 = .ok (.iload_n 3, 1) := by decide +kernel
theorem dX2_firstLargest_43 : decode cX2_firstLargest 43 = .ok (.if_icmp .le 14, 3) := by decide +kernel
theorem dX2_firstLargest_46 : decode cX2_firstLargest 46 = .ok (.aload_n 0, 1) := by decide +kernel
theorem dX2_firstLargest_47 : decode cX2_firstLargest 47 = .ok (.getfield 31, 3) := by decide +kernel
theorem dX2_firstLargest_50 : decode cX2_firstLargest 50 = .ok (.iload 4, 2) := by decide +kernel
theorem dX2_firstLargest_52 : decode cX2_firstLargest 52 = .ok (.iaload, 1) := by decide +kernel
theorem dX2_firstLargest_53 : decode cX2_firstLargest 53 = .ok (.istore_n 3, 1) := by decide +kernel
theorem dX2_firstLargest_54 : decode cX2_firstLargest 54 = .ok (.iload 4, 2) := by decide +kernel
theorem dX2_firstLargest_56 : decode cX2_firstLargest 56 = .ok (.istore_n 2, 1) := by decide +kernel
theorem dX2_firstLargest_57 : decode cX2_firstLargest 57 = .ok (.iinc 4 1, 3) := by decide +kernel
theorem dX2_firstLargest_60 : decode cX2_firstLargest 60 = .ok (.goto (-53), 3) := by decide +kernel
theorem dX2_firstLargest_63 : decode cX2_firstLargest 63 = .ok (.iload_n 2, 1) := by decide +kernel
theorem dX2_firstLargest_64 : decode cX2_firstLargest 64 = .ok (.ireturn, 1) := by decide +kernel
theorem dX2_lastSmallest_0 : decode cX2_lastSmallest 0 = .ok (.iconst (-1), 1) := by decide +kernel
theorem dX2_lastSmallest_1 : decode cX2_lastSmallest 1 = .ok (.istore_n 2, 1) := by decide +kernel
theorem dX2_lastSmallest_2 : decode cX2_lastSmallest 2 = .ok (.bipush 16, 2) := by decide +kernel
theorem dX2_lastSmallest_4 : decode cX2_lastSmallest 4 = .ok (.istore_n 3, 1) := by decide +kernel
theorem dX2_lastSmallest_5 : decode cX2_lastSmallest 5 = .ok (.iconst 0, 1) := by decide +kernel
theorem dX2_lastSmallest_6 : decode cX2_lastSmallest 6 = .ok (.istore 4, 2) := by decide +kernel
theorem dX2_lastSmallest_8 : decode cX2_lastSmallest 8 = .ok (.iload 4, 2) := by decide +kernel
theorem dX2_lastSmallest_10 : decode cX2_lastSmallest 10 = .ok (.aload_n 0, 1) := by decide +kernel
theorem dX2_lastSmallest_11 : decode cX2_lastSmallest 11 = .ok (.getfield 34, 3) := by decide +kernel
theorem dX2_lastSmallest_14 : decode cX2_lastSmallest 14 = .ok (.if_icmp .ge 50, 3) := by decide +kernel
theorem dX2_lastSmallest_17 : decode cX2_lastSmallest 17 = .ok (.iload 4, 2) := by decide +kernel
theorem dX2_lastSmallest_19 : decode cX2_lastSmallest 19 = .ok (.sipush 256, 3) := by decide +kernel
theorem dX2_lastSmallest_22 : decode cX2_lastSmallest 22 = .ok (.if_icmp .ge 42, 3) := by decide +kernel
theorem dX2_lastSmallest_25 : decode cX2_lastSmallest 25 = .ok (.aload_n 0, 1) := by decide +kernel
theorem dX2_lastSmallest_26 : decode cX2_lastSmallest 26 = .ok (.getfield 22, 3) := by decide +kernel
theorem dX2_lastSmallest_29 : decode cX2_lastSmallest 29 = .ok (.iload 4, 2) := by decide +kernel
theorem dX2_lastSmallest_31 : decode cX2_lastSmallest 31 = .ok (.iaload, 1) := by decide +kernel
theorem dX2_lastSmallest_32 : decode cX2_lastSmallest 32 = .ok (.iload_n 1, 1) := by decide +kernel
theorem dX2_lastSmallest_33 : decode cX2_lastSmallest 33 = .ok (.if_icmp .ne 25, 3) := by decide +kernel
theorem dX2_lastSmallest_36 : decode cX2_lastSmallest 36 = .ok (.aload_n 0, 1) := by decide +kernel
theorem dX2_lastSmallest_37 : decode cX2_lastSmallest 37 = .ok (.getfield 31, 3) := by decide +kernel
theorem dX2_lastSmallest_40 : decode cX2_lastSmallest 40 = .ok (.iload 4, 2) := by decide +kernel
theorem dX2_lastSmallest_42 : decode cX2_lastSmallest 42 = .ok (.iaload, 1) := by decide +kernel
theorem dX2_lastSmallest_43 : decode cX2_lastSmallest 43 = .ok (.iload_n 3, 1) := by decide +kernel
theorem dX2_lastSmallest_44 : decode cX2_lastSmallest 44 = .ok (.if_icmp .gt 14, 3) := by decide +kernel
theorem dX2_lastSmallest_47 : decode cX2_lastSmallest 47 = .ok (.aload_n 0, 1) := by decide +kernel
theorem dX2_lastSmallest_48 : decode cX2_lastSmallest 48 = .ok (.getfield 31, 3) := by decide +kernel
theorem dX2_lastSmallest_51 : decode cX2_lastSmallest 51 = .ok (.iload 4, 2) := by decide +kernel
theorem dX2_lastSmallest_53 : decode cX2_lastSmallest 53 = .ok (.iaload, 1) := by decide +kernel
theorem dX2_lastSmallest_54 : decode cX2_lastSmallest 54 = .ok (.istore_n 3, 1) := by decide +kernel
theorem dX2_lastSmallest_55 : decode cX2_lastSmallest 55 = .ok (.iload 4, 2) := by decide +kernel
theorem dX2_lastSmallest_57 : decode cX2_lastSmallest 57 = .ok (.istore_n 2, 1) := by decide +kernel
theorem dX2_lastSmallest_58 : decode cX2_lastSmallest 58 = .ok (.iinc 4 1, 3) := by decide +kernel
theorem dX2_lastSmallest_61 : decode cX2_lastSmallest 61 = .ok (.goto (-53), 3) := by decide +kernel
theorem dX2_lastSmallest_64 : decode cX2_lastSmallest 64 = .ok (.iload_n 2, 1) := by decide +kernel
theorem dX2_lastSmallest_65 : decode cX2_lastSmallest 65 = .ok (.ireturn, 1) := by decide +kernel
