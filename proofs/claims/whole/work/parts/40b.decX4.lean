theorem dX4_flood_0 : decode cX4_flood 0 = .ok (.aload_n 0, 1) := by decide +kernel
theorem dX4_flood_1 : decode cX4_flood 1 = .ok (.iconst 0, 1) := by decide +kernel
theorem dX4_flood_2 : decode cX4_flood 2 = .ok (.putfield 37, 3) := by decide +kernel
theorem dX4_flood_5 : decode cX4_flood 5 = .ok (.iload_n 1, 1) := by decide +kernel
theorem dX4_flood_6 : decode cX4_flood 6 = .ok (.iconst 1, 1) := by decide +kernel
theorem dX4_flood_7 : decode cX4_flood 7 = .ok (.bipush 10, 2) := by decide +kernel
theorem dX4_flood_9 : decode cX4_flood 9 = .ok (.invokestatic 48, 3) := by decide +kernel
theorem dX4_flood_12 : decode cX4_flood 12 = .ok (.ifCond .ne 9, 3) := by decide +kernel
theorem dX4_flood_15 : decode cX4_flood 15 = .ok (.aload_n 0, 1) := by decide +kernel
theorem dX4_flood_16 : decode cX4_flood 16 = .ok (.iconst 1, 1) := by decide +kernel
theorem dX4_flood_17 : decode cX4_flood 17 = .ok (.invokevirtual 89, 3) := by decide +kernel
theorem dX4_flood_20 : decode cX4_flood 20 = .ok (.ireturn, 1) := by decide +kernel
theorem dX4_flood_21 : decode cX4_flood 21 = .ok (.aload_n 0, 1) := by decide +kernel
theorem dX4_flood_22 : decode cX4_flood 22 = .ok (.invokevirtual 95, 3) := by decide +kernel
theorem dX4_flood_25 : decode cX4_flood 25 = .ok (.aload_n 0, 1) := by decide +kernel
theorem dX4_flood_26 : decode cX4_flood 26 = .ok (.iload_n 1, 1) := by decide +kernel
theorem dX4_flood_27 : decode cX4_flood 27 = .ok (.invokevirtual 101, 3) := by decide +kernel
theorem dX4_flood_30 : decode cX4_flood 30 = .ok (.ireturn, 1) := by decide +kernel
set_option maxRecDepth 20000 in
theorem ggX4_buyPlot_X4_isPerson : GoodIn wsX4_buyPlot wsX4_isPerson := goodIn_r _ [7, 8, 9, 6, 10] (by decide +kernel) (by decide +kernel)
set_option maxRecDepth 20000 in
theorem gX4_buyPlot_X4_isPerson : GoodIn wsX4_buyPlot (va_wsS RX4 104 yX4_isPerson wsX4_isPerson) := goodIn_app (goodIn_of _ (by decide +kernel)) ggX4_buyPlot_X4_isPerson
set_option maxRecDepth 20000 in
theorem ggX4_buyPlot_X4_isCell : GoodIn wsX4_buyPlot wsX4_isCell := goodIn_r _ [13, 8, 9, 6, 10] (by decide +kernel) (by decide +kernel)
set_option maxRecDepth 20000 in
theorem gX4_buyPlot_X4_isCell : GoodIn wsX4_buyPlot (va_wsS RX4 82 yX4_isCell wsX4_isCell) := goodIn_app (goodIn_of _ (by decide +kernel)) ggX4_buyPlot_X4_isCell
set_option maxRecDepth 20000 in
theorem ggX4_buyPlot_X4_refuses : GoodIn wsX4_buyPlot wsX4_refuses := goodIn_r _ [17, 1, 56, 57, 58, 59, 60, 61, 62, 63, 64, 65, 66, 67, 68, 69, 70] (by decide +kernel) (by decide +kernel)
set_option maxRecDepth 20000 in
theorem gX4_buyPlot_X4_refuses : GoodIn wsX4_buyPlot (wsV RX4 89 RX4 yX4_refuses wsX4_refuses) := goodIn_app (goodIn_of _ (by decide +kernel)) ggX4_buyPlot_X4_refuses
set_option maxRecDepth 20000 in
theorem ggX4_buyPlot_X4_plotAt : GoodIn wsX4_buyPlot wsX4_plotAt := goodIn_r _ [21, 22, 2, 3, 23, 24, 25, 6, 26, 27, 28, 29, 30, 31, 32, 33, 34, 8, 9, 10, 56, 57, 58, 59, 60, 61, 62, 63, 64, 65, 66, 67, 68, 69, 70] (by decide +kernel) (by decide +kernel)
set_option maxRecDepth 20000 in
theorem gX4_buyPlot_X4_plotAt : GoodIn wsX4_buyPlot (wsV RX4 107 RX4 yX4_plotAt wsX4_plotAt) := goodIn_app (goodIn_of _ (by decide +kernel)) ggX4_buyPlot_X4_plotAt
set_option maxRecDepth 20000 in
theorem ggX4_buyPlot_X4_canBuy : GoodIn wsX4_buyPlot wsX4_canBuy := goodIn_r _ [38, 34, 30, 31, 32, 6, 33, 56, 57, 58, 59, 60, 61, 62, 63, 64, 65, 66, 67, 68, 69, 70] (by decide +kernel) (by decide +kernel)
set_option maxRecDepth 20000 in
theorem gX4_buyPlot_X4_canBuy : GoodIn wsX4_buyPlot (wsV RX4 111 RX4 yX4_canBuy wsX4_canBuy) := goodIn_app (goodIn_of _ (by decide +kernel)) ggX4_buyPlot_X4_canBuy
set_option maxRecDepth 20000 in
theorem ggX4_buyPlot_X4_saves : GoodIn wsX4_buyPlot wsX4_saves := goodIn_r _ [42, 43, 44, 34, 45, 46, 6, 47, 56, 57, 58, 59, 60, 61, 62, 63, 64, 65, 66, 67, 68, 69, 70] (by decide +kernel) (by decide +kernel)
set_option maxRecDepth 20000 in
theorem gX4_buyPlot_X4_saves : GoodIn wsX4_buyPlot (wsV RX4 95 RX4 yX4_saves wsX4_saves) := goodIn_app (goodIn_of _ (by decide +kernel)) ggX4_buyPlot_X4_saves
set_option maxRecDepth 20000 in
theorem ggX4_buyPlot_X4_buys : GoodIn wsX4_buyPlot wsX4_buys := goodIn_r _ [51, 34, 52, 53, 54, 6, 55, 56, 57, 58, 59, 60, 61, 62, 63, 64, 65, 66, 67, 68, 69, 70] (by decide +kernel) (by decide +kernel)
set_option maxRecDepth 20000 in
theorem gX4_buyPlot_X4_buys : GoodIn wsX4_buyPlot (wsV RX4 114 RX4 yX4_buys wsX4_buys) := goodIn_app (goodIn_of _ (by decide +kernel)) ggX4_buyPlot_X4_buys
theorem dX4_buyPlot_0 : decode cX4_buyPlot 0 = .ok (.aload_n 0, 1) := by decide +kernel
theorem dX4_buyPlot_1 : decode cX4_buyPlot 1 = .ok (.iconst 0, 1) := by decide +kernel
theorem dX4_buyPlot_2 : decode cX4_buyPlot 2 = .ok (.putfield 37, 3) := by decide +kernel
theorem dX4_buyPlot_5 : decode cX4_buyPlot 5 = .ok (.iload_n 1, 1) := by decide +kernel
theorem dX4_buyPlot_6 : decode cX4_buyPlot 6 = .ok (.invokestatic 104, 3) := by decide +kernel
theorem dX4_buyPlot_9 : decode cX4_buyPlot 9 = .ok (.ifCond .eq 11, 3) := by decide +kernel
theorem dX4_buyPlot_12 : decode cX4_buyPlot 12 = .ok (.iload_n 2, 1) := by decide +kernel
theorem dX4_buyPlot_13 : decode cX4_buyPlot 13 = .ok (.iload_n 3, 1) := by decide +kernel
theorem dX4_buyPlot_14 : decode cX4_buyPlot 14 = .ok (.invokestatic 82, 3) := by decide +kernel
theorem dX4_buyPlot_17 : decode cX4_buyPlot 17 = .ok (.ifCond .ne 9, 3) := by decide +kernel
theorem dX4_buyPlot_20 : decode cX4_buyPlot 20 = .ok (.aload_n 0, 1) := by decide +kernel
theorem dX4_buyPlot_21 : decode cX4_buyPlot 21 = .ok (.iconst 1, 1) := by decide +kernel
theorem dX4_buyPlot_22 : decode cX4_buyPlot 22 = .ok (.invokevirtual 89, 3) := by decide +kernel
theorem dX4_buyPlot_25 : decode cX4_buyPlot 25 = .ok (.ireturn, 1) := by decide +kernel
theorem dX4_buyPlot_26 : decode cX4_buyPlot 26 = .ok (.aload_n 0, 1) := by decide +kernel
theorem dX4_buyPlot_27 : decode cX4_buyPlot 27 = .ok (.iload_n 2, 1) := by decide +kernel
theorem dX4_buyPlot_28 : decode cX4_buyPlot 28 = .ok (.iload_n 3, 1) := by decide +kernel
theorem dX4_buyPlot_29 : decode cX4_buyPlot 29 = .ok (.invokevirtual 107, 3) := by decide +kernel
theorem dX4_buyPlot_32 : decode cX4_buyPlot 32 = .ok (.istore 4, 2) := by decide +kernel
theorem dX4_buyPlot_34 : decode cX4_buyPlot 34 = .ok (.aload_n 0, 1) := by decide +kernel
theorem dX4_buyPlot_35 : decode cX4_buyPlot 35 = .ok (.iload_n 1, 1) := by decide +kernel
theorem dX4_buyPlot_36 : decode cX4_buyPlot 36 = .ok (.aload_n 0, 1) := by decide +kernel
theorem dX4_buyPlot_37 : decode cX4_buyPlot 37 = .ok (.getfield 25, 3) := by decide +kernel
theorem dX4_buyPlot_40 : decode cX4_buyPlot 40 = .ok (.iload 4, 2) := by decide +kernel
theorem dX4_buyPlot_42 : decode cX4_buyPlot 42 = .ok (.iaload, 1) := by decide +kernel
theorem dX4_buyPlot_43 : decode cX4_buyPlot 43 = .ok (.aload_n 0, 1) := by decide +kernel
theorem dX4_buyPlot_44 : decode cX4_buyPlot 44 = .ok (.getfield 28, 3) := by decide +kernel
theorem dX4_buyPlot_47 : decode cX4_buyPlot 47 = .ok (.iload 4, 2) := by decide +kernel
theorem dX4_buyPlot_49 : decode cX4_buyPlot 49 = .ok (.iaload, 1) := by decide +kernel
theorem dX4_buyPlot_50 : decode cX4_buyPlot 50 = .ok (.invokevirtual 111, 3) := by decide +kernel
theorem dX4_buyPlot_53 : decode cX4_buyPlot 53 = .ok (.ifCond .ne 9, 3) := by decide +kernel
theorem dX4_buyPlot_56 : decode cX4_buyPlot 56 = .ok (.aload_n 0, 1) := by decide +kernel
theorem dX4_buyPlot_57 : decode cX4_buyPlot 57 = .ok (.iconst 2, 1) := by decide +kernel
theorem dX4_buyPlot_58 : decode cX4_buyPlot 58 = .ok (.invokevirtual 89, 3) := by decide +kernel
theorem dX4_buyPlot_61 : decode cX4_buyPlot 61 = .ok (.ireturn, 1) := by decide +kernel
theorem dX4_buyPlot_62 : decode cX4_buyPlot 62 = .ok (.aload_n 0, 1) := by decide +kernel
theorem dX4_buyPlot_63 : decode cX4_buyPlot 63 = .ok (.invokevirtual 95, 3) := by decide +kernel
theorem dX4_buyPlot_66 : decode cX4_buyPlot 66 = .ok (.aload_n 0, 1) := by decide +kernel
theorem dX4_buyPlot_67 : decode cX4_buyPlot 67 = .ok (.iload_n 1, 1) := by decide +kernel
theorem dX4_buyPlot_68 : decode cX4_buyPlot 68 = .ok (.aload_n 0, 1) := by decide +kernel
theorem dX4_buyPlot_69 : decode cX4_buyPlot 69 = .ok (.getfield 25, 3) := by decide +kernel
theorem dX4_buyPlot_72 : decode cX4_buyPlot 72 = .ok (.iload 4, 2) := by decide +kernel
theorem dX4_buyPlot_74 : decode cX4_buyPlot 74 = .ok (.iaload, 1) := by decide +kernel
theorem dX4_buyPlot_75 : decode cX4_buyPlot 75 = .ok (.aload_n 0, 1) := by decide +kernel
theorem dX4_buyPlot_76 : decode cX4_buyPlot 76 = .ok (.getfield 28, 3) := by decide +kernel
theorem dX4_buyPlot_79 : decode cX4_buyPlot 79 = .ok (.iload 4, 2) := by decide +kernel
theorem dX4_buyPlot_81 : decode cX4_buyPlot 81 = .ok (.iaload, 1) := by decide +kernel
theorem dX4_buyPlot_82 : decode cX4_buyPlot 82 = .ok (.invokevirtual 114, 3) := by decide +kernel
theorem dX4_buyPlot_85 : decode cX4_buyPlot 85 = .ok (.ireturn, 1) := by decide +kernel
set_option maxRecDepth 20000 in
theorem ggX4_buySquare_X4_isPerson : GoodIn wsX4_buySquare wsX4_isPerson := goodIn_r _ [5, 6, 7, 4, 8] (by decide +kernel) (by decide +kernel)
set_option maxRecDepth 20000 in
theorem gX4_buySquare_X4_isPerson : GoodIn wsX4_buySquare (va_wsS RX4 104 yX4_isPerson wsX4_isPerson) := goodIn_app (goodIn_of _ (by decide +kernel)) ggX4_buySquare_X4_isPerson
set_option maxRecDepth 20000 in
theorem ggX4_buySquare_X4_isCell : GoodIn wsX4_buySquare wsX4_isCell := goodIn_r _ [11, 6, 7, 4, 8] (by decide +kernel) (by decide +kernel)
set_option maxRecDepth 20000 in
theorem gX4_buySquare_X4_isCell : GoodIn wsX4_buySquare (va_wsS RX4 82 yX4_isCell wsX4_isCell) := goodIn_app (goodIn_of _ (by decide +kernel)) ggX4_buySquare_X4_isCell
set_option maxRecDepth 20000 in
theorem ggX4_buySquare_X4_refuses : GoodIn wsX4_buySquare wsX4_refuses := goodIn_r _ [15, 1, 45, 46, 47, 48, 49, 50, 51, 52, 53, 54, 55, 56, 57, 58, 59] (by decide +kernel) (by decide +kernel)
set_option maxRecDepth 20000 in
theorem gX4_buySquare_X4_refuses : GoodIn wsX4_buySquare (wsV RX4 89 RX4 yX4_refuses wsX4_refuses) := goodIn_app (goodIn_of _ (by decide +kernel)) ggX4_buySquare_X4_refuses
set_option maxRecDepth 20000 in
theorem ggX4_buySquare_X4_isSquare : GoodIn wsX4_buySquare wsX4_isSquare := goodIn_r _ [18] (by decide +kernel) (by decide +kernel)
set_option maxRecDepth 20000 in
theorem gX4_buySquare_X4_isSquare : GoodIn wsX4_buySquare (va_wsS RX4 92 yX4_isSquare wsX4_isSquare) := goodIn_app (goodIn_of _ (by decide +kernel)) ggX4_buySquare_X4_isSquare
set_option maxRecDepth 20000 in
theorem ggX4_buySquare_X4_canBuy : GoodIn wsX4_buySquare wsX4_canBuy := goodIn_r _ [22, 23, 24, 25, 26, 4, 27, 45, 46, 47, 48, 49, 50, 51, 52, 53, 54, 55, 56, 57, 58, 59] (by decide +kernel) (by decide +kernel)
set_option maxRecDepth 20000 in
theorem gX4_buySquare_X4_canBuy : GoodIn wsX4_buySquare (wsV RX4 111 RX4 yX4_canBuy wsX4_canBuy) := goodIn_app (goodIn_of _ (by decide +kernel)) ggX4_buySquare_X4_canBuy
set_option maxRecDepth 20000 in
theorem ggX4_buySquare_X4_saves : GoodIn wsX4_buySquare wsX4_saves := goodIn_r _ [31, 32, 33, 23, 34, 35, 4, 36, 45, 46, 47, 48, 49, 50, 51, 52, 53, 54, 55, 56, 57, 58, 59] (by decide +kernel) (by decide +kernel)
set_option maxRecDepth 20000 in
theorem gX4_buySquare_X4_saves : GoodIn wsX4_buySquare (wsV RX4 95 RX4 yX4_saves wsX4_saves) := goodIn_app (goodIn_of _ (by decide +kernel)) ggX4_buySquare_X4_saves
set_option maxRecDepth 20000 in
theorem ggX4_buySquare_X4_buys : GoodIn wsX4_buySquare wsX4_buys := goodIn_r _ [40, 23, 41, 42, 43, 4, 44, 45, 46, 47, 48, 49, 50, 51, 52, 53, 54, 55, 56, 57, 58, 59] (by decide +kernel) (by decide +kernel)
set_option maxRecDepth 20000 in
theorem gX4_buySquare_X4_buys : GoodIn wsX4_buySquare (wsV RX4 114 RX4 yX4_buys wsX4_buys) := goodIn_app (goodIn_of _ (by decide +kernel)) ggX4_buySquare_X4_buys
theorem dX4_buySquare_0 : decode cX4_buySquare 0 = .ok (.aload_n 0, 1) := by decide +kernel
theorem dX4_buySquare_1 : decode cX4_buySquare 1 = .ok (.iconst 0, 1) := by decide +kernel
theorem dX4_buySquare_2 : decode cX4_buySquare 2 = .ok (.putfield 37, 3) := by decide +kernel
theorem dX4_buySquare_5 : decode cX4_buySquare 5 = .ok (.iload_n 1, 1) := by decide +kernel
theorem dX4_buySquare_6 : decode cX4_buySquare 6 = .ok (.invokestatic 104, 3) := by decide +kernel
theorem dX4_buySquare_9 : decode cX4_buySquare 9 = .ok (.ifCond .eq 11, 3) := by decide +kernel
theorem dX4_buySquare_12 : decode cX4_buySquare 12 = .ok (.iload_n 2, 1) := by decide +kernel
theorem dX4_buySquare_13 : decode cX4_buySquare 13 = .ok (.iload_n 3, 1) := by decide +kernel
theorem dX4_buySquare_14 : decode cX4_buySquare 14 = .ok (.invokestatic 82, 3) := by decide +kernel
theorem dX4_buySquare_17 : decode cX4_buySquare 17 = .ok (.ifCond .ne 9, 3) := by decide +kernel
theorem dX4_buySquare_20 : decode cX4_buySquare 20 = .ok (.aload_n 0, 1) := by decide +kernel
theorem dX4_buySquare_21 : decode cX4_buySquare 21 = .ok (.iconst 1, 1) := by decide +kernel
theorem dX4_buySquare_22 : decode cX4_buySquare 22 = .ok (.invokevirtual 89, 3) := by decide +kernel
theorem dX4_buySquare_25 : decode cX4_buySquare 25 = .ok (.ireturn, 1) := by decide +kernel
theorem dX4_buySquare_26 : decode cX4_buySquare 26 = .ok (.iload_n 2, 1) := by decide +kernel
theorem dX4_buySquare_27 : decode cX4_buySquare 27 = .ok (.iload_n 3, 1) := by decide +kernel
theorem dX4_buySquare_28 : decode cX4_buySquare 28 = .ok (.iload 4, 2) := by decide +kernel
theorem dX4_buySquare_30 : decode cX4_buySquare 30 = .ok (.invokestatic 92, 3) := by decide +kernel
theorem dX4_buySquare_33 : decode cX4_buySquare 33 = .ok (.ifCond .ne 9, 3) := by decide +kernel
theorem dX4_buySquare_36 : decode cX4_buySquare 36 = .ok (.aload_n 0, 1) := by decide +kernel
theorem dX4_buySquare_37 : decode cX4_buySquare 37 = .ok (.iconst 2, 1) := by decide +kernel
theorem dX4_buySquare_38 : decode cX4_buySquare 38 = .ok (.invokevirtual 89, 3) := by decide +kernel
theorem dX4_buySquare_41 : decode cX4_buySquare 41 = .ok (.ireturn, 1) := by decide +kernel
theorem dX4_buySquare_42 : decode cX4_buySquare 42 = .ok (.aload_n 0, 1) := by decide +kernel
theorem dX4_buySquare_43 : decode cX4_buySquare 43 = .ok (.iload_n 1, 1) := by decide +kernel
theorem dX4_buySquare_44 : decode cX4_buySquare 44 = .ok (.bipush 16, 2) := by decide +kernel
theorem dX4_buySquare_46 : decode cX4_buySquare 46 = .ok (.iload_n 3, 1) := by decide +kernel
theorem dX4_buySquare_47 : decode cX4_buySquare 47 = .ok (.imul, 1) := by decide +kernel
theorem dX4_buySquare_48 : decode cX4_buySquare 48 = .ok (.iload_n 2, 1) := by decide +kernel
theorem dX4_buySquare_49 : decode cX4_buySquare 49 = .ok (.iadd, 1) := by decide +kernel
theorem dX4_buySquare_50 : decode cX4_buySquare 50 = .ok (.iload 4, 2) := by decide +kernel
theorem dX4_buySquare_52 : decode cX4_buySquare 52 = .ok (.invokevirtual 111, 3) := by decide +kernel
theorem dX4_buySquare_55 : decode cX4_buySquare 55 = .ok (.ifCond .ne 9, 3) := by decide +kernel
theorem dX4_buySquare_58 : decode cX4_buySquare 58 = .ok (.aload_n 0, 1) := by decide +kernel
theorem dX4_buySquare_59 : decode cX4_buySquare 59 = .ok (.iconst 3, 1) := by decide +kernel
theorem dX4_buySquare_60 : decode cX4_buySquare 60 = .ok (.invokevirtual 89, 3) := by decide +kernel
theorem dX4_buySquare_63 : decode cX4_buySquare 63 = .ok (.ireturn, 1) := by decide +kernel
theorem dX4_buySquare_64 : decode cX4_buySquare 64 = .ok (.aload_n 0, 1) := by decide +kernel
theorem dX4_buySquare_65 : decode cX4_buySquare 65 = .ok (.invokevirtual 95, 3) := by decide +kernel
theorem dX4_buySquare_68 : decode cX4_buySquare 68 = .ok (.aload_n 0, 1) := by decide +kernel
theorem dX4_buySquare_69 : decode cX4_buySquare 69 = .ok (.iload_n 1, 1) := by decide +kernel
theorem dX4_buySquare_70 : decode cX4_buySquare 70 = .ok (.bipush 16, 2) := by decide +kernel
theorem dX4_buySquare_72 : decode cX4_buySquare 72 = .ok (.iload_n 3, 1) := by decide +kernel
theorem dX4_buySquare_73 : decode cX4_buySquare 73 = .ok (.imul, 1) := by decide +kernel
theorem dX4_buySquare_74 : decode cX4_buySquare 74 = .ok (.iload_n 2, 1) := by decide +kernel
theorem dX4_buySquare_75 : decode cX4_buySquare 75 = .ok (.iadd, 1) := by decide +kernel
theorem dX4_buySquare_76 : decode cX4_buySquare 76 = .ok (.iload 4, 2) := by decide +kernel
theorem dX4_buySquare_78 : decode cX4_buySquare 78 = .ok (.invokevirtual 114, 3) := by decide +kernel
theorem dX4_buySquare_81 : decode cX4_buySquare 81 = .ok (.ireturn, 1) := by decide +kernel
set_option maxRecDepth 20000 in
theorem ggX4_collectTaxes_X4_saves : GoodIn wsX4_collectTaxes wsX4_saves := goodIn_r _ [6, 7, 8, 9, 10, 11, 5, 12, 51, 52, 53, 54, 55, 56, 57, 58, 59, 60, 61, 62, 63, 64, 65] (by decide +kernel) (by decide +kernel)
set_option maxRecDepth 20000 in
theorem gX4_collectTaxes_X4_saves : GoodIn wsX4_collectTaxes (wsV RX4 95 RX4 yX4_saves wsX4_saves) := goodIn_app (goodIn_of _ (by decide +kernel)) ggX4_collectTaxes_X4_saves
set_option maxRecDepth 20000 in
theorem ggX4_collectTaxes_X4_taxes : GoodIn wsX4_collectTaxes wsX4_taxes := goodIn_r _ [16, 9, 17, 18, 19, 5, 20, 21, 22, 23, 24, 25, 26, 27, 28, 29, 30, 31, 32, 33, 34, 35, 36, 37, 38, 39, 40, 41, 42, 43, 44, 45, 46, 47, 48, 49, 50, 51, 52, 53, 54, 55, 56, 57, 58, 59, 60, 61, 62, 63, 64, 65] (by decide +kernel) (by decide +kernel)
set_option maxRecDepth 20000 in
theorem gX4_collectTaxes_X4_taxes : GoodIn wsX4_collectTaxes (wsV RX4 117 RX4 yX4_taxes wsX4_taxes) := goodIn_app (goodIn_of _ (by decide +kernel)) ggX4_collectTaxes_X4_taxes
theorem dX4_collectTaxes_0 : decode cX4_collectTaxes 0 = .ok (.aload_n 0, 1) := by decide +kernel
theorem dX4_collectTaxes_1 : decode cX4_collectTaxes 1 = .ok (.iconst 0, 1) := by decide +kernel
theorem dX4_collectTaxes_2 : decode cX4_collectTaxes 2 = .ok (.putfield 37, 3) := by decide +kernel
theorem dX4_collectTaxes_5 : decode cX4_collectTaxes 5 = .ok (.aload_n 0, 1) := by decide +kernel
theorem dX4_collectTaxes_6 : decode cX4_collectTaxes 6 = .ok (.invokevirtual 95, 3) := by decide +kernel
theorem dX4_collectTaxes_9 : decode cX4_collectTaxes 9 = .ok (.aload_n 0, 1) := by decide +kernel
theorem dX4_collectTaxes_10 : decode cX4_collectTaxes 10 = .ok (.invokevirtual 117, 3) := by decide +kernel
theorem dX4_collectTaxes_13 : decode cX4_collectTaxes 13 = .ok (.ireturn, 1) := by decide +kernel
set_option maxRecDepth 20000 in
theorem ggX4_setPrice_X4_in : GoodIn wsX4_setPrice wsX4_in := goodIn_r _ [6] (by decide +kernel) (by decide +kernel)
set_option maxRecDepth 20000 in
theorem gX4_setPrice_X4_in : GoodIn wsX4_setPrice (va_wsS RX4 48 yX4_in wsX4_in) := goodIn_app (goodIn_of _ (by decide +kernel)) ggX4_setPrice_X4_in
set_option maxRecDepth 20000 in
theorem ggX4_setPrice_X4_refuses : GoodIn wsX4_setPrice wsX4_refuses := goodIn_r _ [10, 1, 20, 21, 22, 23, 24, 25, 26, 27, 28, 29, 30, 31, 32, 33, 34] (by decide +kernel) (by decide +kernel)
set_option maxRecDepth 20000 in
theorem gX4_setPrice_X4_refuses : GoodIn wsX4_setPrice (wsV RX4 89 RX4 yX4_refuses wsX4_refuses) := goodIn_app (goodIn_of _ (by decide +kernel)) ggX4_setPrice_X4_refuses
set_option maxRecDepth 20000 in
theorem ggX4_setPrice_X4_saves : GoodIn wsX4_setPrice wsX4_saves := goodIn_r _ [14, 15, 16, 2, 17, 18, 5, 19, 20, 21, 22, 23, 24, 25, 26, 27, 28, 29, 30, 31, 32, 33, 34] (by decide +kernel) (by decide +kernel)
set_option maxRecDepth 20000 in
theorem gX4_setPrice_X4_saves : GoodIn wsX4_setPrice (wsV RX4 95 RX4 yX4_saves wsX4_saves) := goodIn_app (goodIn_of _ (by decide +kernel)) ggX4_setPrice_X4_saves
theorem dX4_setPrice_0 : decode cX4_setPrice 0 = .ok (.aload_n 0, 1) := by decide +kernel
theorem dX4_setPrice_1 : decode cX4_setPrice 1 = .ok (.iconst 0, 1) := by decide +kernel
theorem dX4_setPrice_2 : decode cX4_setPrice 2 = .ok (.putfield 37, 3) := by decide +kernel
theorem dX4_setPrice_5 : decode cX4_setPrice 5 = .ok (.iload_n 1, 1) := by decide +kernel
theorem dX4_setPrice_6 : decode cX4_setPrice 6 = .ok (.iconst 1, 1) := by decide +kernel
theorem dX4_setPrice_7 : decode cX4_setPrice 7 = .ok (.bipush 9, 2) := by decide +kernel
theorem dX4_setPrice_9 : decode cX4_setPrice 9 = .ok (.invokestatic 48, 3) := by decide +kernel
theorem dX4_setPrice_12 : decode cX4_setPrice 12 = .ok (.ifCond .ne 9, 3) := by decide +kernel
theorem dX4_setPrice_15 : decode cX4_setPrice 15 = .ok (.aload_n 0, 1) := by decide +kernel
theorem dX4_setPrice_16 : decode cX4_setPrice 16 = .ok (.iconst 1, 1) := by decide +kernel
theorem dX4_setPrice_17 : decode cX4_setPrice 17 = .ok (.invokevirtual 89, 3) := by decide +kernel
theorem dX4_setPrice_20 : decode cX4_setPrice 20 = .ok (.ireturn, 1) := by decide +kernel
theorem dX4_setPrice_21 : decode cX4_setPrice 21 = .ok (.aload_n 0, 1) := by decide +kernel
theorem dX4_setPrice_22 : decode cX4_setPrice 22 = .ok (.invokevirtual 95, 3) := by decide +kernel
theorem dX4_setPrice_25 : decode cX4_setPrice 25 = .ok (.aload_n 0, 1) := by decide +kernel
theorem dX4_setPrice_26 : decode cX4_setPrice 26 = .ok (.getfield 7, 3) := by decide +kernel
theorem dX4_setPrice_29 : decode cX4_setPrice 29 = .ok (.sipush 520, 3) := by decide +kernel
theorem dX4_setPrice_32 : decode cX4_setPrice 32 = .ok (.iaload, 1) := by decide +kernel
theorem dX4_setPrice_33 : decode cX4_setPrice 33 = .ok (.istore_n 2, 1) := by decide +kernel
theorem dX4_setPrice_34 : decode cX4_setPrice 34 = .ok (.aload_n 0, 1) := by decide +kernel
theorem dX4_setPrice_35 : decode cX4_setPrice 35 = .ok (.getfield 7, 3) := by decide +kernel
theorem dX4_setPrice_38 : decode cX4_setPrice 38 = .ok (.sipush 520, 3) := by decide +kernel
theorem dX4_setPrice_41 : decode cX4_setPrice 41 = .ok (.iload_n 1, 1) := by decide +kernel
theorem dX4_setPrice_42 : decode cX4_setPrice 42 = .ok (.iastore, 1) := by decide +kernel
theorem dX4_setPrice_43 : decode cX4_setPrice 43 = .ok (.iload_n 2, 1) := by decide +kernel
theorem dX4_setPrice_44 : decode cX4_setPrice 44 = .ok (.ireturn, 1) := by decide +kernel
set_option maxRecDepth 20000 in
theorem ggX4_setTax_X4_in : GoodIn wsX4_setTax wsX4_in := goodIn_r _ [6] (by decide +kernel) (by decide +kernel)
set_option maxRecDepth 20000 in
theorem gX4_setTax_X4_in : GoodIn wsX4_setTax (va_wsS RX4 48 yX4_in wsX4_in) := goodIn_app (goodIn_of _ (by decide +kernel)) ggX4_setTax_X4_in
set_option maxRecDepth 20000 in
theorem ggX4_setTax_X4_refuses : GoodIn wsX4_setTax wsX4_refuses := goodIn_r _ [10, 1, 20, 21, 22, 23, 24, 25, 26, 27, 28, 29, 30, 31, 32, 33, 34] (by decide +kernel) (by decide +kernel)
set_option maxRecDepth 20000 in
theorem gX4_setTax_X4_refuses : GoodIn wsX4_setTax (wsV RX4 89 RX4 yX4_refuses wsX4_refuses) := goodIn_app (goodIn_of _ (by decide +kernel)) ggX4_setTax_X4_refuses
set_option maxRecDepth 20000 in
theorem ggX4_setTax_X4_saves : GoodIn wsX4_setTax wsX4_saves := goodIn_r _ [14, 15, 16, 2, 17, 18, 5, 19, 20, 21, 22, 23, 24, 25, 26, 27, 28, 29, 30, 31, 32, 33, 34] (by decide +kernel) (by decide +kernel)
set_option maxRecDepth 20000 in
theorem gX4_setTax_X4_saves : GoodIn wsX4_setTax (wsV RX4 95 RX4 yX4_saves wsX4_saves) := goodIn_app (goodIn_of _ (by decide +kernel)) ggX4_setTax_X4_saves
theorem dX4_setTax_0 : decode cX4_setTax 0 = .ok (.aload_n 0, 1) := by decide +kernel
theorem dX4_setTax_1 : decode cX4_setTax 1 = .ok (.iconst 0, 1) := by decide +kernel
theorem dX4_setTax_2 : decode cX4_setTax 2 = .ok (.putfield 37, 3) := by decide +kernel
theorem dX4_setTax_5 : decode cX4_setTax 5 = .ok (.iload_n 1, 1) := by decide +kernel
theorem dX4_setTax_6 : decode cX4_setTax 6 = .ok (.iconst 0, 1) := by decide +kernel
theorem dX4_setTax_7 : decode cX4_setTax 7 = .ok (.bipush 9, 2) := by decide +kernel
theorem dX4_setTax_9 : decode cX4_setTax 9 = .ok (.invokestatic 48, 3) := by decide +kernel
theorem dX4_setTax_12 : decode cX4_setTax 12 = .ok (.ifCond .ne 9, 3) := by decide +kernel
theorem dX4_setTax_15 : decode cX4_setTax 15 = .ok (.aload_n 0, 1) := by decide +kernel
theorem dX4_setTax_16 : decode cX4_setTax 16 = .ok (.iconst 1, 1) := by decide +kernel
theorem dX4_setTax_17 : decode cX4_setTax 17 = .ok (.invokevirtual 89, 3) := by decide +kernel
theorem dX4_setTax_20 : decode cX4_setTax 20 = .ok (.ireturn, 1) := by decide +kernel
theorem dX4_setTax_21 : decode cX4_setTax 21 = .ok (.aload_n 0, 1) := by decide +kernel
theorem dX4_setTax_22 : decode cX4_setTax 22 = .ok (.invokevirtual 95, 3) := by decide +kernel
theorem dX4_setTax_25 : decode cX4_setTax 25 = .ok (.aload_n 0, 1) := by decide +kernel
theorem dX4_setTax_26 : decode cX4_setTax 26 = .ok (.getfield 7, 3) := by decide +kernel
theorem dX4_setTax_29 : decode cX4_setTax 29 = .ok (.sipush 521, 3) := by decide +kernel
theorem dX4_setTax_32 : decode cX4_setTax 32 = .ok (.iaload, 1) := by decide +kernel
theorem dX4_setTax_33 : decode cX4_setTax 33 = .ok (.istore_n 2, 1) := by decide +kernel
theorem dX4_setTax_34 : decode cX4_setTax 34 = .ok (.aload_n 0, 1) := by decide +kernel
theorem dX4_setTax_35 : decode cX4_setTax 35 = .ok (.getfield 7, 3) := by decide +kernel
theorem dX4_setTax_38 : decode cX4_setTax 38 = .ok (.sipush 521, 3) := by decide +kernel
theorem dX4_setTax_41 : decode cX4_setTax 41 = .ok (.iload_n 1, 1) := by decide +kernel
theorem dX4_setTax_42 : decode cX4_setTax 42 = .ok (.iastore, 1) := by decide +kernel
theorem dX4_setTax_43 : decode cX4_setTax 43 = .ok (.iload_n 2, 1) := by decide +kernel
theorem dX4_setTax_44 : decode cX4_setTax 44 = .ok (.ireturn, 1) := by decide +kernel
set_option maxRecDepth 20000 in
theorem ggX4_append_X4_in : GoodIn wsX4_append wsX4_in := goodIn_r _ [7] (by decide +kernel) (by decide +kernel)
set_option maxRecDepth 20000 in
theorem gX4_append_X4_in : GoodIn wsX4_append (va_wsS RX4 48 yX4_in wsX4_in) := goodIn_app (goodIn_of _ (by decide +kernel)) ggX4_append_X4_in
set_option maxRecDepth 20000 in
theorem ggX4_append_X4_refuses : GoodIn wsX4_append wsX4_refuses := goodIn_r _ [11, 1, 12, 13, 14, 15, 16, 17, 18, 19, 20, 21, 22, 23, 24, 25, 26] (by decide +kernel) (by decide +kernel)
set_option maxRecDepth 20000 in
theorem gX4_append_X4_refuses : GoodIn wsX4_append (wsV RX4 89 RX4 yX4_refuses wsX4_refuses) := goodIn_app (goodIn_of _ (by decide +kernel)) ggX4_append_X4_refuses
theorem dX4_append_0 : decode cX4_append 0 = .ok (.aload_n 0, 1) := by decide +kernel
theorem dX4_append_1 : decode cX4_append 1 = .ok (.iconst 0, 1) := by decide +kernel
theorem dX4_append_2 : decode cX4_append 2 = .ok (.putfield 37, 3) := by decide +kernel
theorem dX4_append_5 : decode cX4_append 5 = .ok (.iload_n 1, 1) := by decide +kernel
theorem dX4_append_6 : decode cX4_append 6 = .ok (.bipush 33, 2) := by decide +kernel
theorem dX4_append_8 : decode cX4_append 8 = .ok (.bipush 126, 2) := by decide +kernel
theorem dX4_append_10 : decode cX4_append 10 = .ok (.invokestatic 48, 3) := by decide +kernel
theorem dX4_append_13 : decode cX4_append 13 = .ok (.ifCond .ne 9, 3) := by decide +kernel
theorem dX4_append_16 : decode cX4_append 16 = .ok (.aload_n 0, 1) := by decide +kernel
theorem dX4_append_17 : decode cX4_append 17 = .ok (.iconst 1, 1) := by decide +kernel
theorem dX4_append_18 : decode cX4_append 18 = .ok (.invokevirtual 89, 3) := by decide +kernel
theorem dX4_append_21 : decode cX4_append 21 = .ok (.ireturn, 1) := by decide +kernel
theorem dX4_append_22 : decode cX4_append 22 = .ok (.aload_n 0, 1) := by decide +kernel
theorem dX4_append_23 : decode cX4_append 23 = .ok (.getfield 121, 3) := by decide +kernel
theorem dX4_append_26 : decode cX4_append 26 = .ok (.bipush 60, 2) := by decide +kernel
theorem dX4_append_28 : decode cX4_append 28 = .ok (.if_icmp .ne 9, 3) := by decide +kernel
theorem dX4_append_31 : decode cX4_append 31 = .ok (.aload_n 0, 1) := by decide +kernel
theorem dX4_append_32 : decode cX4_append 32 = .ok (.iconst 2, 1) := by decide +kernel
theorem dX4_append_33 : decode cX4_append 33 = .ok (.invokevirtual 89, 3) := by decide +kernel
theorem dX4_append_36 : decode cX4_append 36 = .ok (.ireturn, 1) := by decide +kernel
theorem dX4_append_37 : decode cX4_append 37 = .ok (.aload_n 0, 1) := by decide +kernel
theorem dX4_append_38 : decode cX4_append 38 = .ok (.getfield 31, 3) := by decide +kernel
theorem dX4_append_41 : decode cX4_append 41 = .ok (.aload_n 0, 1) := by decide +kernel
theorem dX4_append_42 : decode cX4_append 42 = .ok (.getfield 121, 3) := by decide +kernel
theorem dX4_append_45 : decode cX4_append 45 = .ok (.iload_n 1, 1) := by decide +kernel
theorem dX4_append_46 : decode cX4_append 46 = .ok (.iastore, 1) := by decide +kernel
theorem dX4_append_47 : decode cX4_append 47 = .ok (.aload_n 0, 1) := by decide +kernel
theorem dX4_append_48 : decode cX4_append 48 = .ok (.dup, 1) := by decide +kernel
theorem dX4_append_49 : decode cX4_append 49 = .ok (.getfield 121, 3) := by decide +kernel
theorem dX4_append_52 : decode cX4_append 52 = .ok (.iconst 1, 1) := by decide +kernel
theorem dX4_append_53 : decode cX4_append 53 = .ok (.iadd, 1) := by decide +kernel
theorem dX4_append_54 : decode cX4_append 54 = .ok (.putfield 121, 3) := by decide +kernel
theorem dX4_append_57 : decode cX4_append 57 = .ok (.aload_n 0, 1) := by decide +kernel
theorem dX4_append_58 : decode cX4_append 58 = .ok (.getfield 121, 3) := by decide +kernel
theorem dX4_append_61 : decode cX4_append 61 = .ok (.ireturn, 1) := by decide +kernel
theorem dX4_clearBuffer_0 : decode cX4_clearBuffer 0 = .ok (.aload_n 0, 1) := by decide +kernel
theorem dX4_clearBuffer_1 : decode cX4_clearBuffer 1 = .ok (.iconst 0, 1) := by decide +kernel
theorem dX4_clearBuffer_2 : decode cX4_clearBuffer 2 = .ok (.putfield 37, 3) := by decide +kernel
theorem dX4_clearBuffer_5 : decode cX4_clearBuffer 5 = .ok (.aload_n 0, 1) := by decide +kernel
theorem dX4_clearBuffer_6 : decode cX4_clearBuffer 6 = .ok (.getfield 121, 3) := by decide +kernel
theorem dX4_clearBuffer_9 : decode cX4_clearBuffer 9 = .ok (.istore_n 1, 1) := by decide +kernel
theorem dX4_clearBuffer_10 : decode cX4_clearBuffer 10 = .ok (.aload_n 0, 1) := by decide +kernel
theorem dX4_clearBuffer_11 : decode cX4_clearBuffer 11 = .ok (.iconst 0, 1) := by decide +kernel
theorem dX4_clearBuffer_12 : decode cX4_clearBuffer 12 = .ok (.putfield 121, 3) := by decide +kernel
theorem dX4_clearBuffer_15 : decode cX4_clearBuffer 15 = .ok (.iload_n 1, 1) := by decide +kernel
theorem dX4_clearBuffer_16 : decode cX4_clearBuffer 16 = .ok (.ireturn, 1) := by decide +kernel
theorem dX4_bufferLength_0 : decode cX4_bufferLength 0 = .ok (.aload_n 0, 1) := by decide +kernel
theorem dX4_bufferLength_1 : decode cX4_bufferLength 1 = .ok (.iconst 0, 1) := by decide +kernel
theorem dX4_bufferLength_2 : decode cX4_bufferLength 2 = .ok (.putfield 37, 3) := by decide +kernel
theorem dX4_bufferLength_5 : decode cX4_bufferLength 5 = .ok (.aload_n 0, 1) := by decide +kernel
theorem dX4_bufferLength_6 : decode cX4_bufferLength 6 = .ok (.getfield 121, 3) := by decide +kernel
theorem dX4_bufferLength_9 : decode cX4_bufferLength 9 = .ok (.ireturn, 1) := by decide +kernel
set_option maxRecDepth 20000 in
theorem ggX4_sees_X4_in : GoodIn wsX4_sees wsX4_in := goodIn_r _ [7] (by decide +kernel) (by decide +kernel)
set_option maxRecDepth 20000 in
theorem gX4_sees_X4_in : GoodIn wsX4_sees (va_wsS RX4 48 yX4_in wsX4_in) := goodIn_app (goodIn_of _ (by decide +kernel)) ggX4_sees_X4_in
theorem dX4_sees_0 : decode cX4_sees 0 = .ok (.aload_n 0, 1) := by decide +kernel
theorem dX4_sees_1 : decode cX4_sees 1 = .ok (.getfield 124, 3) := by decide +kernel
theorem dX4_sees_4 : decode cX4_sees 4 = .ok (.aload_n 0, 1) := by decide +kernel
theorem dX4_sees_5 : decode cX4_sees 5 = .ok (.getfield 121, 3) := by decide +kernel
theorem dX4_sees_8 : decode cX4_sees 8 = .ok (.if_icmp .ge 24, 3) := by decide +kernel
theorem dX4_sees_11 : decode cX4_sees 11 = .ok (.aload_n 0, 1) := by decide +kernel
theorem dX4_sees_12 : decode cX4_sees 12 = .ok (.getfield 31, 3) := by decide +kernel
theorem dX4_sees_15 : decode cX4_sees 15 = .ok (.aload_n 0, 1) := by decide +kernel
theorem dX4_sees_16 : decode cX4_sees 16 = .ok (.getfield 124, 3) := by decide +kernel
theorem dX4_sees_19 : decode cX4_sees 19 = .ok (.iaload, 1) := by decide +kernel
theorem dX4_sees_20 : decode cX4_sees 20 = .ok (.iload_n 1, 1) := by decide +kernel
theorem dX4_sees_21 : decode cX4_sees 21 = .ok (.iload_n 2, 1) := by decide +kernel
theorem dX4_sees_22 : decode cX4_sees 22 = .ok (.invokestatic 48, 3) := by decide +kernel
theorem dX4_sees_25 : decode cX4_sees 25 = .ok (.ifCond .eq 7, 3) := by decide +kernel
theorem dX4_sees_28 : decode cX4_sees 28 = .ok (.iconst 1, 1) := by decide +kernel
theorem dX4_sees_29 : decode cX4_sees 29 = .ok (.goto 4, 3) := by decide +kernel
theorem dX4_sees_32 : decode cX4_sees 32 = .ok (.iconst 0, 1) := by decide +kernel
theorem dX4_sees_33 : decode cX4_sees 33 = .ok (.ireturn, 1) := by decide +kernel
set_option maxRecDepth 20000 in
theorem ggX4_takes_X4_sees : GoodIn wsX4_takes wsX4_sees := goodIn_r _ [6, 1, 7, 8, 9, 10, 5, 11, 12, 13, 14, 15, 16, 17, 18, 19, 20, 21, 22, 23, 24, 25, 26] (by decide +kernel) (by decide +kernel)
set_option maxRecDepth 20000 in
theorem gX4_takes_X4_sees : GoodIn wsX4_takes (wsV RX4 127 RX4 yX4_sees wsX4_sees) := goodIn_app (goodIn_of _ (by decide +kernel)) ggX4_takes_X4_sees
theorem dX4_takes_0 : decode cX4_takes 0 = .ok (.aload_n 0, 1) := by decide +kernel
theorem dX4_takes_1 : decode cX4_takes 1 = .ok (.iload_n 1, 1) := by decide +kernel
theorem dX4_takes_2 : decode cX4_takes 2 = .ok (.iload_n 1, 1) := by decide +kernel
theorem dX4_takes_3 : decode cX4_takes 3 = .ok (.invokevirtual 127, 3) := by decide +kernel
theorem dX4_takes_6 : decode cX4_takes 6 = .ok (.istore_n 2, 1) := by decide +kernel
theorem dX4_takes_7 : decode cX4_takes 7 = .ok (.aload_n 0, 1) := by decide +kernel
theorem dX4_takes_8 : decode cX4_takes 8 = .ok (.dup, 1) := by decide +kernel
theorem dX4_takes_9 : decode cX4_takes 9 = .ok (.getfield 124, 3) := by decide +kernel
theorem dX4_takes_12 : decode cX4_takes 12 = .ok (.iload_n 2, 1) := by decide +kernel
theorem dX4_takes_13 : decode cX4_takes 13 = .ok (.ifCond .eq 7, 3) := by decide +kernel
theorem dX4_takes_16 : decode cX4_takes 16 = .ok (.iconst 1, 1) := by decide +kernel
theorem dX4_takes_17 : decode cX4_takes 17 = .ok (.goto 4, 3) := by decide +kernel
theorem dX4_takes_20 : decode cX4_takes 20 = .ok (.iconst 0, 1) := by decide +kernel
theorem dX4_takes_21 : decode cX4_takes 21 = .ok (.iadd, 1) := by decide +kernel
theorem dX4_takes_22 : decode cX4_takes 22 = .ok (.putfield 124, 3) := by decide +kernel
theorem dX4_takes_25 : decode cX4_takes 25 = .ok (.iload_n 2, 1) := by decide +kernel
theorem dX4_takes_26 : decode cX4_takes 26 = .ok (.ireturn, 1) := by decide +kernel
set_option maxRecDepth 20000 in
theorem ggX4_isOf_X4_sees : GoodIn wsX4_isOf wsX4_sees := goodIn_r _ [9, 4, 10, 3, 11, 12, 8, 13, 14, 15, 16, 17, 18, 19, 20, 21, 22, 23, 24, 25, 26, 27, 28] (by decide +kernel) (by decide +kernel)
set_option maxRecDepth 20000 in
theorem gX4_isOf_X4_sees : GoodIn wsX4_isOf (wsV RX4 127 RX4 yX4_sees wsX4_sees) := goodIn_app (goodIn_of _ (by decide +kernel)) ggX4_isOf_X4_sees
theorem dX4_isOf_0 : decode cX4_isOf 0 = .ok (.aload_n 0, 1) := by decide +kernel
theorem dX4_isOf_1 : decode cX4_isOf 1 = .ok (.iload_n 2, 1) := by decide +kernel
theorem dX4_isOf_2 : decode cX4_isOf 2 = .ok (.iload_n 3, 1) := by decide +kernel
theorem dX4_isOf_3 : decode cX4_isOf 3 = .ok (.invokevirtual 127, 3) := by decide +kernel
theorem dX4_isOf_6 : decode cX4_isOf 6 = .ok (.ifCond .ne 5, 3) := by decide +kernel
theorem dX4_isOf_9 : decode cX4_isOf 9 = .ok (.iconst 0, 1) := by decide +kernel
theorem dX4_isOf_10 : decode cX4_isOf 10 = .ok (.ireturn, 1) := by decide +kernel
theorem dX4_isOf_11 : decode cX4_isOf 11 = .ok (.aload_n 0, 1) := by decide +kernel
theorem dX4_isOf_12 : decode cX4_isOf 12 = .ok (.getfield 34, 3) := by decide +kernel
theorem dX4_isOf_15 : decode cX4_isOf 15 = .ok (.bipush 6, 2) := by decide +kernel
theorem dX4_isOf_17 : decode cX4_isOf 17 = .ok (.aload_n 0, 1) := by decide +kernel
theorem dX4_isOf_18 : decode cX4_isOf 18 = .ok (.getfield 130, 3) := by decide +kernel
theorem dX4_isOf_21 : decode cX4_isOf 21 = .ok (.imul, 1) := by decide +kernel
theorem dX4_isOf_22 : decode cX4_isOf 22 = .ok (.iload_n 1, 1) := by decide +kernel
theorem dX4_isOf_23 : decode cX4_isOf 23 = .ok (.iadd, 1) := by decide +kernel
theorem dX4_isOf_24 : decode cX4_isOf 24 = .ok (.aload_n 0, 1) := by decide +kernel
theorem dX4_isOf_25 : decode cX4_isOf 25 = .ok (.getfield 31, 3) := by decide +kernel
theorem dX4_isOf_28 : decode cX4_isOf 28 = .ok (.aload_n 0, 1) := by decide +kernel
theorem dX4_isOf_29 : decode cX4_isOf 29 = .ok (.getfield 124, 3) := by decide +kernel
theorem dX4_isOf_32 : decode cX4_isOf 32 = .ok (.iaload, 1) := by decide +kernel
theorem dX4_isOf_33 : decode cX4_isOf 33 = .ok (.iload_n 2, 1) := by decide +kernel
theorem dX4_isOf_34 : decode cX4_isOf 34 = .ok (.isub, 1) := by decide +kernel
theorem dX4_isOf_35 : decode cX4_isOf 35 = .ok (.iastore, 1) := by decide +kernel
theorem dX4_isOf_36 : decode cX4_isOf 36 = .ok (.aload_n 0, 1) := by decide +kernel
theorem dX4_isOf_37 : decode cX4_isOf 37 = .ok (.dup, 1) := by decide +kernel
theorem dX4_isOf_38 : decode cX4_isOf 38 = .ok (.getfield 124, 3) := by decide +kernel
theorem dX4_isOf_41 : decode cX4_isOf 41 = .ok (.iconst 1, 1) := by decide +kernel
theorem dX4_isOf_42 : decode cX4_isOf 42 = .ok (.iadd, 1) := by decide +kernel
theorem dX4_isOf_43 : decode cX4_isOf 43 = .ok (.putfield 124, 3) := by decide +kernel
theorem dX4_isOf_46 : decode cX4_isOf 46 = .ok (.iconst 1, 1) := by decide +kernel
theorem dX4_isOf_47 : decode cX4_isOf 47 = .ok (.ireturn, 1) := by decide +kernel
set_option maxRecDepth 20000 in
theorem ggX4_isCellTold_X4_isOf : GoodIn wsX4_isCellTold wsX4_isOf := goodIn_r _ [5, 6, 7, 8, 9, 10, 11, 12, 4, 13, 14, 15, 16, 17, 18, 19, 20, 21, 22, 23, 24, 25, 26, 27, 28, 29, 30, 31, 32] (by decide +kernel) (by decide +kernel)
set_option maxRecDepth 20000 in
theorem gX4_isCellTold_X4_isOf : GoodIn wsX4_isCellTold (wsV RX4 133 RX4 yX4_isOf wsX4_isOf) := goodIn_app (goodIn_of _ (by decide +kernel)) ggX4_isCellTold_X4_isOf
theorem dX4_isCellTold_0 : decode cX4_isCellTold 0 = .ok (.aload_n 0, 1) := by decide +kernel
theorem dX4_isCellTold_1 : decode cX4_isCellTold 1 = .ok (.iconst 1, 1) := by decide +kernel
theorem dX4_isCellTold_2 : decode cX4_isCellTold 2 = .ok (.bipush 97, 2) := by decide +kernel
theorem dX4_isCellTold_4 : decode cX4_isCellTold 4 = .ok (.bipush 112, 2) := by decide +kernel
theorem dX4_isCellTold_6 : decode cX4_isCellTold 6 = .ok (.invokevirtual 133, 3) := by decide +kernel
theorem dX4_isCellTold_9 : decode cX4_isCellTold 9 = .ok (.ifCond .eq 19, 3) := by decide +kernel
theorem dX4_isCellTold_12 : decode cX4_isCellTold 12 = .ok (.aload_n 0, 1) := by decide +kernel
theorem dX4_isCellTold_13 : decode cX4_isCellTold 13 = .ok (.iconst 2, 1) := by decide +kernel
theorem dX4_isCellTold_14 : decode cX4_isCellTold 14 = .ok (.bipush 97, 2) := by decide +kernel
theorem dX4_isCellTold_16 : decode cX4_isCellTold 16 = .ok (.bipush 112, 2) := by decide +kernel
theorem dX4_isCellTold_18 : decode cX4_isCellTold 18 = .ok (.invokevirtual 133, 3) := by decide +kernel
theorem dX4_isCellTold_21 : decode cX4_isCellTold 21 = .ok (.ifCond .eq 7, 3) := by decide +kernel
theorem dX4_isCellTold_24 : decode cX4_isCellTold 24 = .ok (.iconst 1, 1) := by decide +kernel
theorem dX4_isCellTold_25 : decode cX4_isCellTold 25 = .ok (.goto 4, 3) := by decide +kernel
theorem dX4_isCellTold_28 : decode cX4_isCellTold 28 = .ok (.iconst 0, 1) := by decide +kernel
theorem dX4_isCellTold_29 : decode cX4_isCellTold 29 = .ok (.ireturn, 1) := by decide +kernel
set_option maxRecDepth 20000 in
theorem ggX4_isSizeTold_X4_takes : GoodIn wsX4_isSizeTold wsX4_takes := goodIn_r _ [7, 8, 9, 10, 11, 6, 12, 13, 14, 15, 16, 17, 18, 19, 20, 21, 22, 23, 24, 25, 26, 27, 28, 29, 30, 31, 32] (by decide +kernel) (by decide +kernel)
set_option maxRecDepth 20000 in
theorem gX4_isSizeTold_X4_takes : GoodIn wsX4_isSizeTold (wsV RX4 136 RX4 yX4_takes wsX4_takes) := goodIn_app (goodIn_of _ (by decide +kernel)) ggX4_isSizeTold_X4_takes
theorem dX4_isSizeTold_0 : decode cX4_isSizeTold 0 = .ok (.aload_n 0, 1) := by decide +kernel
theorem dX4_isSizeTold_1 : decode cX4_isSizeTold 1 = .ok (.bipush 49, 2) := by decide +kernel
theorem dX4_isSizeTold_3 : decode cX4_isSizeTold 3 = .ok (.invokevirtual 136, 3) := by decide +kernel
theorem dX4_isSizeTold_6 : decode cX4_isSizeTold 6 = .ok (.ifCond .eq 21, 3) := by decide +kernel
theorem dX4_isSizeTold_9 : decode cX4_isSizeTold 9 = .ok (.aload_n 0, 1) := by decide +kernel
theorem dX4_isSizeTold_10 : decode cX4_isSizeTold 10 = .ok (.bipush 54, 2) := by decide +kernel
theorem dX4_isSizeTold_12 : decode cX4_isSizeTold 12 = .ok (.invokevirtual 136, 3) := by decide +kernel
theorem dX4_isSizeTold_15 : decode cX4_isSizeTold 15 = .ok (.ifCond .eq 8, 3) := by decide +kernel
theorem dX4_isSizeTold_18 : decode cX4_isSizeTold 18 = .ok (.bipush 16, 2) := by decide +kernel
theorem dX4_isSizeTold_20 : decode cX4_isSizeTold 20 = .ok (.goto 48, 3) := by decide +kernel
theorem dX4_isSizeTold_23 : decode cX4_isSizeTold 23 = .ok (.iconst 1, 1) := by decide +kernel
theorem dX4_isSizeTold_24 : decode cX4_isSizeTold 24 = .ok (.goto 44, 3) := by decide +kernel
theorem dX4_isSizeTold_27 : decode cX4_isSizeTold 27 = .ok (.aload_n 0, 1) := by decide +kernel
theorem dX4_isSizeTold_28 : decode cX4_isSizeTold 28 = .ok (.bipush 50, 2) := by decide +kernel
theorem dX4_isSizeTold_30 : decode cX4_isSizeTold 30 = .ok (.invokevirtual 136, 3) := by decide +kernel
theorem dX4_isSizeTold_33 : decode cX4_isSizeTold 33 = .ok (.ifCond .eq 7, 3) := by decide +kernel
theorem dX4_isSizeTold_36 : decode cX4_isSizeTold 36 = .ok (.iconst 2, 1) := by decide +kernel
theorem dX4_isSizeTold_37 : decode cX4_isSizeTold 37 = .ok (.goto 31, 3) := by decide +kernel
theorem dX4_isSizeTold_40 : decode cX4_isSizeTold 40 = .ok (.aload_n 0, 1) := by decide +kernel
theorem dX4_isSizeTold_41 : decode cX4_isSizeTold 41 = .ok (.bipush 52, 2) := by decide +kernel
theorem dX4_isSizeTold_43 : decode cX4_isSizeTold 43 = .ok (.invokevirtual 136, 3) := by decide +kernel
theorem dX4_isSizeTold_46 : decode cX4_isSizeTold 46 = .ok (.ifCond .eq 7, 3) := by decide +kernel
theorem dX4_isSizeTold_49 : decode cX4_isSizeTold 49 = .ok (.iconst 4, 1) := by decide +kernel
theorem dX4_isSizeTold_50 : decode cX4_isSizeTold 50 = .ok (.goto 18, 3) := by decide +kernel
theorem dX4_isSizeTold_53 : decode cX4_isSizeTold 53 = .ok (.aload_n 0, 1) := by decide +kernel
theorem dX4_isSizeTold_54 : decode cX4_isSizeTold 54 = .ok (.bipush 56, 2) := by decide +kernel
theorem dX4_isSizeTold_56 : decode cX4_isSizeTold 56 = .ok (.invokevirtual 136, 3) := by decide +kernel
theorem dX4_isSizeTold_59 : decode cX4_isSizeTold 59 = .ok (.ifCond .eq 8, 3) := by decide +kernel
theorem dX4_isSizeTold_62 : decode cX4_isSizeTold 62 = .ok (.bipush 8, 2) := by decide +kernel
theorem dX4_isSizeTold_64 : decode cX4_isSizeTold 64 = .ok (.goto 4, 3) := by decide +kernel
theorem dX4_isSizeTold_67 : decode cX4_isSizeTold 67 = .ok (.iconst 0, 1) := by decide +kernel
theorem dX4_isSizeTold_68 : decode cX4_isSizeTold 68 = .ok (.istore_n 1, 1) := by decide +kernel
theorem dX4_isSizeTold_69 : decode cX4_isSizeTold 69 = .ok (.aload_n 0, 1) := by decide +kernel
theorem dX4_isSizeTold_70 : decode cX4_isSizeTold 70 = .ok (.getfield 34, 3) := by decide +kernel
theorem dX4_isSizeTold_73 : decode cX4_isSizeTold 73 = .ok (.bipush 6, 2) := by decide +kernel
theorem dX4_isSizeTold_75 : decode cX4_isSizeTold 75 = .ok (.aload_n 0, 1) := by decide +kernel
theorem dX4_isSizeTold_76 : decode cX4_isSizeTold 76 = .ok (.getfield 130, 3) := by decide +kernel
theorem dX4_isSizeTold_79 : decode cX4_isSizeTold 79 = .ok (.imul, 1) := by decide +kernel
theorem dX4_isSizeTold_80 : decode cX4_isSizeTold 80 = .ok (.iconst 3, 1) := by decide +kernel
theorem dX4_isSizeTold_81 : decode cX4_isSizeTold 81 = .ok (.iadd, 1) := by decide +kernel
theorem dX4_isSizeTold_82 : decode cX4_isSizeTold 82 = .ok (.iload_n 1, 1) := by decide +kernel
theorem dX4_isSizeTold_83 : decode cX4_isSizeTold 83 = .ok (.iastore, 1) := by decide +kernel
theorem dX4_isSizeTold_84 : decode cX4_isSizeTold 84 = .ok (.iload_n 1, 1) := by decide +kernel
theorem dX4_isSizeTold_85 : decode cX4_isSizeTold 85 = .ok (.ifCond .le 7, 3) := by decide +kernel
theorem dX4_isSizeTold_88 : decode cX4_isSizeTold 88 = .ok (.iconst 1, 1) := by decide +kernel
theorem dX4_isSizeTold_89 : decode cX4_isSizeTold 89 = .ok (.goto 4, 3) := by decide +kernel
theorem dX4_isSizeTold_92 : decode cX4_isSizeTold 92 = .ok (.iconst 0, 1) := by decide +kernel
theorem dX4_isSizeTold_93 : decode cX4_isSizeTold 93 = .ok (.ireturn, 1) := by decide +kernel
set_option maxRecDepth 20000 in
theorem ggX4_isDeed_X4_isCellTold : GoodIn wsX4_isDeed wsX4_isCellTold := goodIn_r _ [10, 11, 12, 13, 9, 14, 4, 5, 3, 1, 15, 16, 17, 18, 2, 19, 20, 21, 34, 35, 36, 37, 38, 39, 40, 41, 42, 43, 44, 45, 46, 47, 48] (by decide +kernel) (by decide +kernel)
set_option maxRecDepth 20000 in
theorem gX4_isDeed_X4_isCellTold : GoodIn wsX4_isDeed (wsV RX4 139 RX4 yX4_isCellTold wsX4_isCellTold) := goodIn_app (goodIn_of _ (by decide +kernel)) ggX4_isDeed_X4_isCellTold
set_option maxRecDepth 20000 in
theorem ggX4_isDeed_X4_isSizeTold : GoodIn wsX4_isDeed wsX4_isSizeTold := goodIn_r _ [25, 4, 5, 26, 27, 28, 9, 29, 1, 15, 16, 17, 18, 2, 3, 19, 20, 21, 34, 35, 36, 37, 38, 39, 40, 41, 42, 43, 44, 45, 46, 47, 48] (by decide +kernel) (by decide +kernel)
set_option maxRecDepth 20000 in
theorem gX4_isDeed_X4_isSizeTold : GoodIn wsX4_isDeed (wsV RX4 143 RX4 yX4_isSizeTold wsX4_isSizeTold) := goodIn_app (goodIn_of _ (by decide +kernel)) ggX4_isDeed_X4_isSizeTold
set_option maxRecDepth 20000 in
theorem ggX4_isDeed_X4_takes : GoodIn wsX4_isDeed wsX4_takes := goodIn_r _ [29, 1, 15, 16, 17, 9, 18, 2, 3, 19, 20, 21, 34, 35, 36, 37, 38, 39, 40, 41, 42, 43, 44, 45, 46, 47, 48] (by decide +kernel) (by decide +kernel)
set_option maxRecDepth 20000 in
theorem gX4_isDeed_X4_takes : GoodIn wsX4_isDeed (wsV RX4 136 RX4 yX4_takes wsX4_takes) := goodIn_app (goodIn_of _ (by decide +kernel)) ggX4_isDeed_X4_takes
set_option maxRecDepth 20000 in
theorem ggX4_isDeed_X4_isOf : GoodIn wsX4_isDeed wsX4_isOf := goodIn_r _ [14, 4, 5, 3, 1, 15, 16, 17, 9, 18, 2, 19, 20, 21, 34, 35, 36, 37, 38, 39, 40, 41, 42, 43, 44, 45, 46, 47, 48] (by decide +kernel) (by decide +kernel)
set_option maxRecDepth 20000 in
theorem gX4_isDeed_X4_isOf : GoodIn wsX4_isDeed (wsV RX4 133 RX4 yX4_isOf wsX4_isOf) := goodIn_app (goodIn_of _ (by decide +kernel)) ggX4_isDeed_X4_isOf
set_option maxRecDepth 20000 in
theorem ggX4_isDeed_X4_isRise : GoodIn wsX4_isDeed wsX4_isRise := goodIn_r _ [33, 4, 5, 26, 27, 28, 9, 29, 1, 15, 16, 17, 18, 2, 3, 19, 20, 21, 11, 12, 13, 14, 34, 35, 36, 37, 38, 39, 40, 41, 42, 43, 44, 45, 46, 47, 48] (by decide +kernel) (by decide +kernel)
set_option maxRecDepth 20000 in
theorem gX4_isDeed_X4_isRise : GoodIn wsX4_isDeed (wsV RX4 146 RX4 yX4_isRise wsX4_isRise) := goodIn_app (goodIn_of _ (by decide +kernel)) ggX4_isDeed_X4_isRise
theorem dX4_isDeed_0 : decode cX4_isDeed 0 = .ok (.aload_n 0, 1) := by decide +kernel
theorem dX4_isDeed_1 : decode cX4_isDeed 1 = .ok (.getfield 124, 3) := by decide +kernel
theorem dX4_isDeed_4 : decode cX4_isDeed 4 = .ok (.aload_n 0, 1) := by decide +kernel
theorem dX4_isDeed_5 : decode cX4_isDeed 5 = .ok (.getfield 121, 3) := by decide +kernel
theorem dX4_isDeed_8 : decode cX4_isDeed 8 = .ok (.if_icmp .ne 5, 3) := by decide +kernel
theorem dX4_isDeed_11 : decode cX4_isDeed 11 = .ok (.iconst 0, 1) := by decide +kernel
theorem dX4_isDeed_12 : decode cX4_isDeed 12 = .ok (.ireturn, 1) := by decide +kernel
theorem dX4_isDeed_13 : decode cX4_isDeed 13 = .ok (.aload_n 0, 1) := by decide +kernel
theorem dX4_isDeed_14 : decode cX4_isDeed 14 = .ok (.getfield 31, 3) := by decide +kernel
theorem dX4_isDeed_17 : decode cX4_isDeed 17 = .ok (.aload_n 0, 1) := by decide +kernel
theorem dX4_isDeed_18 : decode cX4_isDeed 18 = .ok (.getfield 124, 3) := by decide +kernel
theorem dX4_isDeed_21 : decode cX4_isDeed 21 = .ok (.iaload, 1) := by decide +kernel
theorem dX4_isDeed_22 : decode cX4_isDeed 22 = .ok (.istore_n 1, 1) := by decide +kernel
theorem dX4_isDeed_23 : decode cX4_isDeed 23 = .ok (.aload_n 0, 1) := by decide +kernel
theorem dX4_isDeed_24 : decode cX4_isDeed 24 = .ok (.getfield 34, 3) := by decide +kernel
theorem dX4_isDeed_27 : decode cX4_isDeed 27 = .ok (.bipush 6, 2) := by decide +kernel
theorem dX4_isDeed_29 : decode cX4_isDeed 29 = .ok (.aload_n 0, 1) := by decide +kernel
theorem dX4_isDeed_30 : decode cX4_isDeed 30 = .ok (.getfield 130, 3) := by decide +kernel
theorem dX4_isDeed_33 : decode cX4_isDeed 33 = .ok (.imul, 1) := by decide +kernel
theorem dX4_isDeed_34 : decode cX4_isDeed 34 = .ok (.iload_n 1, 1) := by decide +kernel
theorem dX4_isDeed_35 : decode cX4_isDeed 35 = .ok (.iastore, 1) := by decide +kernel
theorem dX4_isDeed_36 : decode cX4_isDeed 36 = .ok (.aload_n 0, 1) := by decide +kernel
theorem dX4_isDeed_37 : decode cX4_isDeed 37 = .ok (.dup, 1) := by decide +kernel
theorem dX4_isDeed_38 : decode cX4_isDeed 38 = .ok (.getfield 124, 3) := by decide +kernel
theorem dX4_isDeed_41 : decode cX4_isDeed 41 = .ok (.iconst 1, 1) := by decide +kernel
theorem dX4_isDeed_42 : decode cX4_isDeed 42 = .ok (.iadd, 1) := by decide +kernel
theorem dX4_isDeed_43 : decode cX4_isDeed 43 = .ok (.putfield 124, 3) := by decide +kernel
theorem dX4_isDeed_46 : decode cX4_isDeed 46 = .ok (.iload_n 1, 1) := by decide +kernel
theorem dX4_isDeed_47 : decode cX4_isDeed 47 = .ok (.lookupswitch 154 #[(98, 117), (102, 142), (103, 49), (114, 90), (116, 152)], 49) := by decide +kernel
theorem dX4_isDeed_96 : decode cX4_isDeed 96 = .ok (.aload_n 0, 1) := by decide +kernel
theorem dX4_isDeed_97 : decode cX4_isDeed 97 = .ok (.invokevirtual 139, 3) := by decide +kernel
theorem dX4_isDeed_100 : decode cX4_isDeed 100 = .ok (.ifCond .eq 35, 3) := by decide +kernel
theorem dX4_isDeed_103 : decode cX4_isDeed 103 = .ok (.aload_n 0, 1) := by decide +kernel
theorem dX4_isDeed_104 : decode cX4_isDeed 104 = .ok (.invokevirtual 143, 3) := by decide +kernel
theorem dX4_isDeed_107 : decode cX4_isDeed 107 = .ok (.ifCond .eq 28, 3) := by decide +kernel
theorem dX4_isDeed_110 : decode cX4_isDeed 110 = .ok (.aload_n 0, 1) := by decide +kernel
theorem dX4_isDeed_111 : decode cX4_isDeed 111 = .ok (.bipush 61, 2) := by decide +kernel
theorem dX4_isDeed_113 : decode cX4_isDeed 113 = .ok (.invokevirtual 136, 3) := by decide +kernel
theorem dX4_isDeed_116 : decode cX4_isDeed 116 = .ok (.ifCond .eq 19, 3) := by decide +kernel
theorem dX4_isDeed_119 : decode cX4_isDeed 119 = .ok (.aload_n 0, 1) := by decide +kernel
theorem dX4_isDeed_120 : decode cX4_isDeed 120 = .ok (.iconst 5, 1) := by decide +kernel
theorem dX4_isDeed_121 : decode cX4_isDeed 121 = .ok (.bipush 48, 2) := by decide +kernel
theorem dX4_isDeed_123 : decode cX4_isDeed 123 = .ok (.bipush 55, 2) := by decide +kernel
theorem dX4_isDeed_125 : decode cX4_isDeed 125 = .ok (.invokevirtual 133, 3) := by decide +kernel
theorem dX4_isDeed_128 : decode cX4_isDeed 128 = .ok (.ifCond .eq 7, 3) := by decide +kernel
theorem dX4_isDeed_131 : decode cX4_isDeed 131 = .ok (.iconst 1, 1) := by decide +kernel
theorem dX4_isDeed_132 : decode cX4_isDeed 132 = .ok (.goto 4, 3) := by decide +kernel
theorem dX4_isDeed_135 : decode cX4_isDeed 135 = .ok (.iconst 0, 1) := by decide +kernel
theorem dX4_isDeed_136 : decode cX4_isDeed 136 = .ok (.ireturn, 1) := by decide +kernel
theorem dX4_isDeed_137 : decode cX4_isDeed 137 = .ok (.aload_n 0, 1) := by decide +kernel
theorem dX4_isDeed_138 : decode cX4_isDeed 138 = .ok (.invokevirtual 139, 3) := by decide +kernel
theorem dX4_isDeed_141 : decode cX4_isDeed 141 = .ok (.ifCond .eq 21, 3) := by decide +kernel
theorem dX4_isDeed_144 : decode cX4_isDeed 144 = .ok (.aload_n 0, 1) := by decide +kernel
theorem dX4_isDeed_145 : decode cX4_isDeed 145 = .ok (.invokevirtual 143, 3) := by decide +kernel
theorem dX4_isDeed_148 : decode cX4_isDeed 148 = .ok (.ifCond .eq 14, 3) := by decide +kernel
theorem dX4_isDeed_151 : decode cX4_isDeed 151 = .ok (.aload_n 0, 1) := by decide +kernel
theorem dX4_isDeed_152 : decode cX4_isDeed 152 = .ok (.invokevirtual 146, 3) := by decide +kernel
theorem dX4_isDeed_155 : decode cX4_isDeed 155 = .ok (.ifCond .eq 7, 3) := by decide +kernel
theorem dX4_isDeed_158 : decode cX4_isDeed 158 = .ok (.iconst 1, 1) := by decide +kernel
theorem dX4_isDeed_159 : decode cX4_isDeed 159 = .ok (.goto 4, 3) := by decide +kernel
theorem dX4_isDeed_162 : decode cX4_isDeed 162 = .ok (.iconst 0, 1) := by decide +kernel
theorem dX4_isDeed_163 : decode cX4_isDeed 163 = .ok (.ireturn, 1) := by decide +kernel
theorem dX4_isDeed_164 : decode cX4_isDeed 164 = .ok (.aload_n 0, 1) := by decide +kernel
theorem dX4_isDeed_165 : decode cX4_isDeed 165 = .ok (.iconst 5, 1) := by decide +kernel
theorem dX4_isDeed_166 : decode cX4_isDeed 166 = .ok (.bipush 49, 2) := by decide +kernel
theorem dX4_isDeed_168 : decode cX4_isDeed 168 = .ok (.bipush 55, 2) := by decide +kernel
theorem dX4_isDeed_170 : decode cX4_isDeed 170 = .ok (.invokevirtual 133, 3) := by decide +kernel
theorem dX4_isDeed_173 : decode cX4_isDeed 173 = .ok (.ifCond .eq 14, 3) := by decide +kernel
theorem dX4_isDeed_176 : decode cX4_isDeed 176 = .ok (.aload_n 0, 1) := by decide +kernel
theorem dX4_isDeed_177 : decode cX4_isDeed 177 = .ok (.invokevirtual 139, 3) := by decide +kernel
theorem dX4_isDeed_180 : decode cX4_isDeed 180 = .ok (.ifCond .eq 7, 3) := by decide +kernel
theorem dX4_isDeed_183 : decode cX4_isDeed 183 = .ok (.iconst 1, 1) := by decide +kernel
theorem dX4_isDeed_184 : decode cX4_isDeed 184 = .ok (.goto 4, 3) := by decide +kernel
theorem dX4_isDeed_187 : decode cX4_isDeed 187 = .ok (.iconst 0, 1) := by decide +kernel
theorem dX4_isDeed_188 : decode cX4_isDeed 188 = .ok (.ireturn, 1) := by decide +kernel
theorem dX4_isDeed_189 : decode cX4_isDeed 189 = .ok (.aload_n 0, 1) := by decide +kernel
theorem dX4_isDeed_190 : decode cX4_isDeed 190 = .ok (.iconst 5, 1) := by decide +kernel
theorem dX4_isDeed_191 : decode cX4_isDeed 191 = .ok (.bipush 49, 2) := by decide +kernel
theorem dX4_isDeed_193 : decode cX4_isDeed 193 = .ok (.bipush 57, 2) := by decide +kernel
theorem dX4_isDeed_195 : decode cX4_isDeed 195 = .ok (.invokevirtual 133, 3) := by decide +kernel
theorem dX4_isDeed_198 : decode cX4_isDeed 198 = .ok (.ireturn, 1) := by decide +kernel
theorem dX4_isDeed_199 : decode cX4_isDeed 199 = .ok (.iconst 1, 1) := by decide +kernel
theorem dX4_isDeed_200 : decode cX4_isDeed 200 = .ok (.ireturn, 1) := by decide +kernel
theorem dX4_isDeed_201 : decode cX4_isDeed 201 = .ok (.aload_n 0, 1) := by decide +kernel
theorem dX4_isDeed_202 : decode cX4_isDeed 202 = .ok (.dup, 1) := by decide +kernel
theorem dX4_isDeed_203 : decode cX4_isDeed 203 = .ok (.getfield 124, 3) := by decide +kernel
theorem dX4_isDeed_206 : decode cX4_isDeed 206 = .ok (.iconst 1, 1) := by decide +kernel
theorem dX4_isDeed_207 : decode cX4_isDeed 207 = .ok (.isub, 1) := by decide +kernel
theorem dX4_isDeed_208 : decode cX4_isDeed 208 = .ok (.putfield 124, 3) := by decide +kernel
theorem dX4_isDeed_211 : decode cX4_isDeed 211 = .ok (.iconst 0, 1) := by decide +kernel
theorem dX4_isDeed_212 : decode cX4_isDeed 212 = .ok (.ireturn, 1) := by decide +kernel
set_option maxRecDepth 20000 in
theorem ggX4_isRise_X4_takes : GoodIn wsX4_isRise wsX4_takes := goodIn_r _ [7, 8, 9, 10, 11, 6, 12, 13, 14, 15, 16, 17, 22, 23, 24, 25, 26, 27, 28, 29, 30, 31, 32, 33, 34, 35, 36] (by decide +kernel) (by decide +kernel)
set_option maxRecDepth 20000 in
theorem gX4_isRise_X4_takes : GoodIn wsX4_isRise (wsV RX4 136 RX4 yX4_takes wsX4_takes) := goodIn_app (goodIn_of _ (by decide +kernel)) ggX4_isRise_X4_takes
set_option maxRecDepth 20000 in
theorem ggX4_isRise_X4_isOf : GoodIn wsX4_isRise wsX4_isOf := goodIn_r _ [21, 1, 2, 14, 8, 9, 10, 11, 6, 12, 13, 15, 16, 17, 22, 23, 24, 25, 26, 27, 28, 29, 30, 31, 32, 33, 34, 35, 36] (by decide +kernel) (by decide +kernel)
set_option maxRecDepth 20000 in
theorem gX4_isRise_X4_isOf : GoodIn wsX4_isRise (wsV RX4 133 RX4 yX4_isOf wsX4_isOf) := goodIn_app (goodIn_of _ (by decide +kernel)) ggX4_isRise_X4_isOf
theorem dX4_isRise_0 : decode cX4_isRise 0 = .ok (.aload_n 0, 1) := by decide +kernel
theorem dX4_isRise_1 : decode cX4_isRise 1 = .ok (.bipush 43, 2) := by decide +kernel
theorem dX4_isRise_3 : decode cX4_isRise 3 = .ok (.invokevirtual 136, 3) := by decide +kernel
theorem dX4_isRise_6 : decode cX4_isRise 6 = .ok (.istore_n 1, 1) := by decide +kernel
theorem dX4_isRise_7 : decode cX4_isRise 7 = .ok (.aload_n 0, 1) := by decide +kernel
theorem dX4_isRise_8 : decode cX4_isRise 8 = .ok (.getfield 34, 3) := by decide +kernel
theorem dX4_isRise_11 : decode cX4_isRise 11 = .ok (.bipush 6, 2) := by decide +kernel
theorem dX4_isRise_13 : decode cX4_isRise 13 = .ok (.aload_n 0, 1) := by decide +kernel
theorem dX4_isRise_14 : decode cX4_isRise 14 = .ok (.getfield 130, 3) := by decide +kernel
theorem dX4_isRise_17 : decode cX4_isRise 17 = .ok (.imul, 1) := by decide +kernel
theorem dX4_isRise_18 : decode cX4_isRise 18 = .ok (.iconst 4, 1) := by decide +kernel
theorem dX4_isRise_19 : decode cX4_isRise 19 = .ok (.iadd, 1) := by decide +kernel
theorem dX4_isRise_20 : decode cX4_isRise 20 = .ok (.iload_n 1, 1) := by decide +kernel
theorem dX4_isRise_21 : decode cX4_isRise 21 = .ok (.ifCond .eq 7, 3) := by decide +kernel
theorem dX4_isRise_24 : decode cX4_isRise 24 = .ok (.iconst 1, 1) := by decide +kernel
theorem dX4_isRise_25 : decode cX4_isRise 25 = .ok (.goto 4, 3) := by decide +kernel
theorem dX4_isRise_28 : decode cX4_isRise 28 = .ok (.iconst (-1), 1) := by decide +kernel
theorem dX4_isRise_29 : decode cX4_isRise 29 = .ok (.iastore, 1) := by decide +kernel
theorem dX4_isRise_30 : decode cX4_isRise 30 = .ok (.iload_n 1, 1) := by decide +kernel
theorem dX4_isRise_31 : decode cX4_isRise 31 = .ok (.ifCond .ne 12, 3) := by decide +kernel
theorem dX4_isRise_34 : decode cX4_isRise 34 = .ok (.aload_n 0, 1) := by decide +kernel
theorem dX4_isRise_35 : decode cX4_isRise 35 = .ok (.bipush 45, 2) := by decide +kernel
theorem dX4_isRise_37 : decode cX4_isRise 37 = .ok (.invokevirtual 136, 3) := by decide +kernel
theorem dX4_isRise_40 : decode cX4_isRise 40 = .ok (.ifCond .eq 19, 3) := by decide +kernel
theorem dX4_isRise_43 : decode cX4_isRise 43 = .ok (.aload_n 0, 1) := by decide +kernel
theorem dX4_isRise_44 : decode cX4_isRise 44 = .ok (.iconst 5, 1) := by decide +kernel
theorem dX4_isRise_45 : decode cX4_isRise 45 = .ok (.bipush 49, 2) := by decide +kernel
theorem dX4_isRise_47 : decode cX4_isRise 47 = .ok (.bipush 57, 2) := by decide +kernel
theorem dX4_isRise_49 : decode cX4_isRise 49 = .ok (.invokevirtual 133, 3) := by decide +kernel
theorem dX4_isRise_52 : decode cX4_isRise 52 = .ok (.ifCond .eq 7, 3) := by decide +kernel
theorem dX4_isRise_55 : decode cX4_isRise 55 = .ok (.iconst 1, 1) := by decide +kernel
theorem dX4_isRise_56 : decode cX4_isRise 56 = .ok (.goto 4, 3) := by decide +kernel
theorem dX4_isRise_59 : decode cX4_isRise 59 = .ok (.iconst 0, 1) := by decide +kernel
theorem dX4_isRise_60 : decode cX4_isRise 60 = .ok (.ireturn, 1) := by decide +kernel
set_option maxRecDepth 20000 in
theorem ggX4_isWhole_X4_isDeed : GoodIn wsX4_isWhole wsX4_isDeed := goodIn_r _ [8, 1, 3, 9, 10, 2, 11, 12, 13, 7, 14, 15, 16, 17, 18, 19, 20, 21, 22, 23, 24, 25, 26, 27, 28, 29, 30, 31, 32, 33, 34, 35, 36, 37, 38, 39, 40, 41, 42, 43, 44, 45, 46, 47, 48, 49, 50, 51, 52] (by decide +kernel) (by decide +kernel)
set_option maxRecDepth 20000 in
theorem gX4_isWhole_X4_isDeed : GoodIn wsX4_isWhole (wsV RX4 149 RX4 yX4_isDeed wsX4_isDeed) := goodIn_app (goodIn_of _ (by decide +kernel)) ggX4_isWhole_X4_isDeed
set_option maxRecDepth 20000 in
theorem ggX4_isWhole_X4_takes : GoodIn wsX4_isWhole wsX4_takes := goodIn_r _ [33, 1, 19, 20, 21, 7, 22, 3, 9, 23, 24, 25, 38, 39, 40, 41, 42, 43, 44, 45, 46, 47, 48, 49, 50, 51, 52] (by decide +kernel) (by decide +kernel)
set_option maxRecDepth 20000 in
theorem gX4_isWhole_X4_takes : GoodIn wsX4_isWhole (wsV RX4 136 RX4 yX4_takes wsX4_takes) := goodIn_app (goodIn_of _ (by decide +kernel)) ggX4_isWhole_X4_takes
theorem dX4_isWhole_0 : decode cX4_isWhole 0 = .ok (.aload_n 0, 1) := by decide +kernel
theorem dX4_isWhole_1 : decode cX4_isWhole 1 = .ok (.iconst 0, 1) := by decide +kernel
theorem dX4_isWhole_2 : decode cX4_isWhole 2 = .ok (.putfield 124, 3) := by decide +kernel
theorem dX4_isWhole_5 : decode cX4_isWhole 5 = .ok (.aload_n 0, 1) := by decide +kernel
theorem dX4_isWhole_6 : decode cX4_isWhole 6 = .ok (.iconst 0, 1) := by decide +kernel
theorem dX4_isWhole_7 : decode cX4_isWhole 7 = .ok (.putfield 130, 3) := by decide +kernel
theorem dX4_isWhole_10 : decode cX4_isWhole 10 = .ok (.iconst 1, 1) := by decide +kernel
theorem dX4_isWhole_11 : decode cX4_isWhole 11 = .ok (.istore_n 1, 1) := by decide +kernel
theorem dX4_isWhole_12 : decode cX4_isWhole 12 = .ok (.iload_n 1, 1) := by decide +kernel
theorem dX4_isWhole_13 : decode cX4_isWhole 13 = .ok (.ifCond .eq 32, 3) := by decide +kernel
theorem dX4_isWhole_16 : decode cX4_isWhole 16 = .ok (.aload_n 0, 1) := by decide +kernel
theorem dX4_isWhole_17 : decode cX4_isWhole 17 = .ok (.invokevirtual 149, 3) := by decide +kernel
theorem dX4_isWhole_20 : decode cX4_isWhole 20 = .ok (.ifCond .ne 5, 3) := by decide +kernel
theorem dX4_isWhole_23 : decode cX4_isWhole 23 = .ok (.iconst 0, 1) := by decide +kernel
theorem dX4_isWhole_24 : decode cX4_isWhole 24 = .ok (.ireturn, 1) := by decide +kernel
theorem dX4_isWhole_25 : decode cX4_isWhole 25 = .ok (.aload_n 0, 1) := by decide +kernel
theorem dX4_isWhole_26 : decode cX4_isWhole 26 = .ok (.dup, 1) := by decide +kernel
theorem dX4_isWhole_27 : decode cX4_isWhole 27 = .ok (.getfield 130, 3) := by decide +kernel
theorem dX4_isWhole_30 : decode cX4_isWhole 30 = .ok (.iconst 1, 1) := by decide +kernel
theorem dX4_isWhole_31 : decode cX4_isWhole 31 = .ok (.iadd, 1) := by decide +kernel
theorem dX4_isWhole_32 : decode cX4_isWhole 32 = .ok (.putfield 130, 3) := by decide +kernel
theorem dX4_isWhole_35 : decode cX4_isWhole 35 = .ok (.aload_n 0, 1) := by decide +kernel
theorem dX4_isWhole_36 : decode cX4_isWhole 36 = .ok (.bipush 59, 2) := by decide +kernel
theorem dX4_isWhole_38 : decode cX4_isWhole 38 = .ok (.invokevirtual 136, 3) := by decide +kernel
theorem dX4_isWhole_41 : decode cX4_isWhole 41 = .ok (.istore_n 1, 1) := by decide +kernel
theorem dX4_isWhole_42 : decode cX4_isWhole 42 = .ok (.goto (-30), 3) := by decide +kernel
theorem dX4_isWhole_45 : decode cX4_isWhole 45 = .ok (.aload_n 0, 1) := by decide +kernel
theorem dX4_isWhole_46 : decode cX4_isWhole 46 = .ok (.getfield 124, 3) := by decide +kernel
theorem dX4_isWhole_49 : decode cX4_isWhole 49 = .ok (.aload_n 0, 1) := by decide +kernel
theorem dX4_isWhole_50 : decode cX4_isWhole 50 = .ok (.getfield 121, 3) := by decide +kernel
theorem dX4_isWhole_53 : decode cX4_isWhole 53 = .ok (.if_icmp .ne 7, 3) := by decide +kernel
theorem dX4_isWhole_56 : decode cX4_isWhole 56 = .ok (.iconst 1, 1) := by decide +kernel
theorem dX4_isWhole_57 : decode cX4_isWhole 57 = .ok (.goto 4, 3) := by decide +kernel
theorem dX4_isWhole_60 : decode cX4_isWhole 60 = .ok (.iconst 0, 1) := by decide +kernel
theorem dX4_isWhole_61 : decode cX4_isWhole 61 = .ok (.ireturn, 1) := by decide +kernel
set_option maxRecDepth 20000 in
theorem ggX4_firstError_X4_isWhole : GoodIn wsX4_firstError wsX4_isWhole := goodIn_r _ [8, 3, 9, 2, 10, 11, 12, 7, 13, 14, 15, 16, 17, 18, 19, 20, 21, 22, 23, 24, 25, 26, 27, 28, 29, 30, 31, 32, 33, 34, 35, 36, 37, 38, 39, 40, 41, 42, 43, 44, 45, 46, 47, 48, 49, 50, 51, 52, 53, 54, 55, 56, 57] (by decide +kernel) (by decide +kernel)
set_option maxRecDepth 20000 in
theorem gX4_firstError_X4_isWhole : GoodIn wsX4_firstError (wsV RX4 152 RX4 yX4_isWhole wsX4_isWhole) := goodIn_app (goodIn_of _ (by decide +kernel)) ggX4_firstError_X4_isWhole
theorem dX4_firstError_0 : decode cX4_firstError 0 = .ok (.aload_n 0, 1) := by decide +kernel
theorem dX4_firstError_1 : decode cX4_firstError 1 = .ok (.iconst 0, 1) := by decide +kernel
theorem dX4_firstError_2 : decode cX4_firstError 2 = .ok (.putfield 37, 3) := by decide +kernel
theorem dX4_firstError_5 : decode cX4_firstError 5 = .ok (.aload_n 0, 1) := by decide +kernel
theorem dX4_firstError_6 : decode cX4_firstError 6 = .ok (.invokevirtual 152, 3) := by decide +kernel
theorem dX4_firstError_9 : decode cX4_firstError 9 = .ok (.ifCond .eq 10, 3) := by decide +kernel
theorem dX4_firstError_12 : decode cX4_firstError 12 = .ok (.aload_n 0, 1) := by decide +kernel
theorem dX4_firstError_13 : decode cX4_firstError 13 = .ok (.getfield 121, 3) := by decide +kernel
theorem dX4_firstError_16 : decode cX4_firstError 16 = .ok (.goto 7, 3) := by decide +kernel
theorem dX4_firstError_19 : decode cX4_firstError 19 = .ok (.aload_n 0, 1) := by decide +kernel
theorem dX4_firstError_20 : decode cX4_firstError 20 = .ok (.getfield 124, 3) := by decide +kernel
theorem dX4_firstError_23 : decode cX4_firstError 23 = .ok (.ireturn, 1) := by decide +kernel
set_option maxRecDepth 20000 in
theorem ggX4_buysAt_X4_plotAt : GoodIn wsX4_buysAt wsX4_plotAt := goodIn_r _ [7, 8, 1, 2, 9, 10, 11, 6, 12, 13, 14, 15, 16, 17, 18, 19, 20, 21, 22, 23, 36, 37, 38, 39, 40, 41, 42, 43, 44, 45, 46, 47, 48, 49, 50] (by decide +kernel) (by decide +kernel)
set_option maxRecDepth 20000 in
theorem gX4_buysAt_X4_plotAt : GoodIn wsX4_buysAt (wsV RX4 107 RX4 yX4_plotAt wsX4_plotAt) := goodIn_app (goodIn_of _ (by decide +kernel)) ggX4_buysAt_X4_plotAt
set_option maxRecDepth 20000 in
theorem ggX4_buysAt_X4_canBuy : GoodIn wsX4_buysAt wsX4_canBuy := goodIn_r _ [27, 20, 16, 17, 18, 6, 19, 36, 37, 38, 39, 40, 41, 42, 43, 44, 45, 46, 47, 48, 49, 50] (by decide +kernel) (by decide +kernel)
set_option maxRecDepth 20000 in
theorem gX4_buysAt_X4_canBuy : GoodIn wsX4_buysAt (wsV RX4 111 RX4 yX4_canBuy wsX4_canBuy) := goodIn_app (goodIn_of _ (by decide +kernel)) ggX4_buysAt_X4_canBuy
set_option maxRecDepth 20000 in
theorem ggX4_buysAt_X4_buys : GoodIn wsX4_buysAt wsX4_buys := goodIn_r _ [31, 20, 32, 33, 34, 6, 35, 36, 37, 38, 39, 40, 41, 42, 43, 44, 45, 46, 47, 48, 49, 50] (by decide +kernel) (by decide +kernel)
set_option maxRecDepth 20000 in
theorem gX4_buysAt_X4_buys : GoodIn wsX4_buysAt (wsV RX4 114 RX4 yX4_buys wsX4_buys) := goodIn_app (goodIn_of _ (by decide +kernel)) ggX4_buysAt_X4_buys
theorem dX4_buysAt_0 : decode cX4_buysAt 0 = .ok (.aload_n 0, 1) := by decide +kernel
theorem dX4_buysAt_1 : decode cX4_buysAt 1 = .ok (.iload_n 2, 1) := by decide +kernel
theorem dX4_buysAt_2 : decode cX4_buysAt 2 = .ok (.iload_n 3, 1) := by decide +kernel
theorem dX4_buysAt_3 : decode cX4_buysAt 3 = .ok (.invokevirtual 107, 3) := by decide +kernel
theorem dX4_buysAt_6 : decode cX4_buysAt 6 = .ok (.istore 4, 2) := by decide +kernel
theorem dX4_buysAt_8 : decode cX4_buysAt 8 = .ok (.aload_n 0, 1) := by decide +kernel
theorem dX4_buysAt_9 : decode cX4_buysAt 9 = .ok (.iload_n 1, 1) := by decide +kernel
theorem dX4_buysAt_10 : decode cX4_buysAt 10 = .ok (.aload_n 0, 1) := by decide +kernel
theorem dX4_buysAt_11 : decode cX4_buysAt 11 = .ok (.getfield 25, 3) := by decide +kernel
theorem dX4_buysAt_14 : decode cX4_buysAt 14 = .ok (.iload 4, 2) := by decide +kernel
theorem dX4_buysAt_16 : decode cX4_buysAt 16 = .ok (.iaload, 1) := by decide +kernel
theorem dX4_buysAt_17 : decode cX4_buysAt 17 = .ok (.aload_n 0, 1) := by decide +kernel
theorem dX4_buysAt_18 : decode cX4_buysAt 18 = .ok (.getfield 28, 3) := by decide +kernel
theorem dX4_buysAt_21 : decode cX4_buysAt 21 = .ok (.iload 4, 2) := by decide +kernel
theorem dX4_buysAt_23 : decode cX4_buysAt 23 = .ok (.iaload, 1) := by decide +kernel
theorem dX4_buysAt_24 : decode cX4_buysAt 24 = .ok (.invokevirtual 111, 3) := by decide +kernel
theorem dX4_buysAt_27 : decode cX4_buysAt 27 = .ok (.ifCond .eq 25, 3) := by decide +kernel
theorem dX4_buysAt_30 : decode cX4_buysAt 30 = .ok (.aload_n 0, 1) := by decide +kernel
theorem dX4_buysAt_31 : decode cX4_buysAt 31 = .ok (.iload_n 1, 1) := by decide +kernel
theorem dX4_buysAt_32 : decode cX4_buysAt 32 = .ok (.aload_n 0, 1) := by decide +kernel
theorem dX4_buysAt_33 : decode cX4_buysAt 33 = .ok (.getfield 25, 3) := by decide +kernel
theorem dX4_buysAt_36 : decode cX4_buysAt 36 = .ok (.iload 4, 2) := by decide +kernel
theorem dX4_buysAt_38 : decode cX4_buysAt 38 = .ok (.iaload, 1) := by decide +kernel
theorem dX4_buysAt_39 : decode cX4_buysAt 39 = .ok (.aload_n 0, 1) := by decide +kernel
theorem dX4_buysAt_40 : decode cX4_buysAt 40 = .ok (.getfield 28, 3) := by decide +kernel
theorem dX4_buysAt_43 : decode cX4_buysAt 43 = .ok (.iload 4, 2) := by decide +kernel
theorem dX4_buysAt_45 : decode cX4_buysAt 45 = .ok (.iaload, 1) := by decide +kernel
theorem dX4_buysAt_46 : decode cX4_buysAt 46 = .ok (.invokevirtual 114, 3) := by decide +kernel
theorem dX4_buysAt_49 : decode cX4_buysAt 49 = .ok (.goto 4, 3) := by decide +kernel
theorem dX4_buysAt_52 : decode cX4_buysAt 52 = .ok (.iconst (-1), 1) := by decide +kernel
theorem dX4_buysAt_53 : decode cX4_buysAt 53 = .ok (.ireturn, 1) := by decide +kernel
set_option maxRecDepth 20000 in
theorem ggX4_does_X4_isSquare : GoodIn wsX4_does wsX4_isSquare := goodIn_r _ [5] (by decide +kernel) (by decide +kernel)
set_option maxRecDepth 20000 in
theorem gX4_does_X4_isSquare : GoodIn wsX4_does (va_wsS RX4 92 yX4_isSquare wsX4_isSquare) := goodIn_app (goodIn_of _ (by decide +kernel)) ggX4_does_X4_isSquare
set_option maxRecDepth 20000 in
theorem ggX4_does_X4_becomes : GoodIn wsX4_does wsX4_becomes := goodIn_r _ [9, 10, 72, 73, 74, 75, 76, 77, 78, 79, 80, 81, 82, 83, 84, 85, 86] (by decide +kernel) (by decide +kernel)
set_option maxRecDepth 20000 in
theorem gX4_does_X4_becomes : GoodIn wsX4_does (wsV RX4 69 RX4 yX4_becomes wsX4_becomes) := goodIn_app (goodIn_of _ (by decide +kernel)) ggX4_does_X4_becomes
set_option maxRecDepth 20000 in
theorem ggX4_does_X4_raises : GoodIn wsX4_does wsX4_raises := goodIn_r _ [14, 10, 72, 73, 74, 75, 76, 77, 78, 79, 80, 81, 82, 83, 84, 85, 86] (by decide +kernel) (by decide +kernel)
set_option maxRecDepth 20000 in
theorem gX4_does_X4_raises : GoodIn wsX4_does (wsV RX4 98 RX4 yX4_raises wsX4_raises) := goodIn_app (goodIn_of _ (by decide +kernel)) ggX4_does_X4_raises
set_option maxRecDepth 20000 in
theorem ggX4_does_X4_buysAt : GoodIn wsX4_does wsX4_buysAt := goodIn_r _ [18, 19, 20, 21, 22, 23, 4, 24, 25, 26, 27, 28, 29, 30, 31, 32, 33, 34, 35, 36, 10, 37, 38, 39, 40, 41, 42, 43, 44, 45, 46, 47, 6, 7, 8, 9, 72, 73, 74, 75, 76, 77, 78, 79, 80, 81, 82, 83, 84, 85, 86] (by decide +kernel) (by decide +kernel)
set_option maxRecDepth 20000 in
theorem gX4_does_X4_buysAt : GoodIn wsX4_does (wsV RX4 155 RX4 yX4_buysAt wsX4_buysAt) := goodIn_app (goodIn_of _ (by decide +kernel)) ggX4_does_X4_buysAt
set_option maxRecDepth 20000 in
theorem ggX4_does_X4_floodsTo : GoodIn wsX4_does wsX4_floodsTo := goodIn_r _ [51, 10, 72, 73, 74, 75, 76, 77, 78, 79, 80, 81, 82, 83, 84, 85, 86] (by decide +kernel) (by decide +kernel)
set_option maxRecDepth 20000 in
theorem gX4_does_X4_floodsTo : GoodIn wsX4_does (wsV RX4 101 RX4 yX4_floodsTo wsX4_floodsTo) := goodIn_app (goodIn_of _ (by decide +kernel)) ggX4_does_X4_floodsTo
set_option maxRecDepth 20000 in
theorem ggX4_does_X4_taxes : GoodIn wsX4_does wsX4_taxes := goodIn_r _ [55, 10, 56, 57, 58, 4, 59, 19, 20, 60, 61, 62, 63, 25, 26, 27, 28, 29, 30, 31, 32, 33, 34, 35, 36, 64, 65, 66, 67, 68, 69, 70, 71, 6, 7, 8, 9, 72, 73, 74, 75, 76, 77, 78, 79, 80, 81, 82, 83, 84, 85, 86] (by decide +kernel) (by decide +kernel)
set_option maxRecDepth 20000 in
theorem gX4_does_X4_taxes : GoodIn wsX4_does (wsV RX4 117 RX4 yX4_taxes wsX4_taxes) := goodIn_app (goodIn_of _ (by decide +kernel)) ggX4_does_X4_taxes
theorem dX4_does_0 : decode cX4_does 0 = .ok (.aload_n 0, 1) := by decide +kernel
theorem dX4_does_1 : decode cX4_does 1 = .ok (.getfield 34, 3) := by decide +kernel
theorem dX4_does_4 : decode cX4_does 4 = .ok (.bipush 6, 2) := by decide +kernel
theorem dX4_does_6 : decode cX4_does 6 = .ok (.iload_n 1, 1) := by decide +kernel
theorem dX4_does_7 : decode cX4_does 7 = .ok (.imul, 1) := by decide +kernel
theorem dX4_does_8 : decode cX4_does 8 = .ok (.iconst 1, 1) := by decide +kernel
theorem dX4_does_9 : decode cX4_does 9 = .ok (.iadd, 1) := by decide +kernel
theorem dX4_does_10 : decode cX4_does 10 = .ok (.iaload, 1) := by decide +kernel
theorem dX4_does_11 : decode cX4_does 11 = .ok (.istore_n 2, 1) := by decide +kernel
theorem dX4_does_12 : decode cX4_does 12 = .ok (.aload_n 0, 1) := by decide +kernel
theorem dX4_does_13 : decode cX4_does 13 = .ok (.getfield 34, 3) := by decide +kernel
theorem dX4_does_16 : decode cX4_does 16 = .ok (.bipush 6, 2) := by decide +kernel
theorem dX4_does_18 : decode cX4_does 18 = .ok (.iload_n 1, 1) := by decide +kernel
theorem dX4_does_19 : decode cX4_does 19 = .ok (.imul, 1) := by decide +kernel
theorem dX4_does_20 : decode cX4_does 20 = .ok (.iconst 2, 1) := by decide +kernel
theorem dX4_does_21 : decode cX4_does 21 = .ok (.iadd, 1) := by decide +kernel
theorem dX4_does_22 : decode cX4_does 22 = .ok (.iaload, 1) := by decide +kernel
theorem dX4_does_23 : decode cX4_does 23 = .ok (.istore_n 3, 1) := by decide +kernel
theorem dX4_does_24 : decode cX4_does 24 = .ok (.aload_n 0, 1) := by decide +kernel
theorem dX4_does_25 : decode cX4_does 25 = .ok (.getfield 34, 3) := by decide +kernel
theorem dX4_does_28 : decode cX4_does 28 = .ok (.bipush 6, 2) := by decide +kernel
theorem dX4_does_30 : decode cX4_does 30 = .ok (.iload_n 1, 1) := by decide +kernel
theorem dX4_does_31 : decode cX4_does 31 = .ok (.imul, 1) := by decide +kernel
theorem dX4_does_32 : decode cX4_does 32 = .ok (.iconst 3, 1) := by decide +kernel
theorem dX4_does_33 : decode cX4_does 33 = .ok (.iadd, 1) := by decide +kernel
theorem dX4_does_34 : decode cX4_does 34 = .ok (.iaload, 1) := by decide +kernel
theorem dX4_does_35 : decode cX4_does 35 = .ok (.istore 4, 2) := by decide +kernel
theorem dX4_does_37 : decode cX4_does 37 = .ok (.aload_n 0, 1) := by decide +kernel
theorem dX4_does_38 : decode cX4_does 38 = .ok (.getfield 34, 3) := by decide +kernel
theorem dX4_does_41 : decode cX4_does 41 = .ok (.bipush 6, 2) := by decide +kernel
theorem dX4_does_43 : decode cX4_does 43 = .ok (.iload_n 1, 1) := by decide +kernel
theorem dX4_does_44 : decode cX4_does 44 = .ok (.imul, 1) := by decide +kernel
theorem dX4_does_45 : decode cX4_does 45 = .ok (.iconst 5, 1) := by decide +kernel
theorem dX4_does_46 : decode cX4_does 46 = .ok (.iadd, 1) := by decide +kernel
theorem dX4_does_47 : decode cX4_does 47 = .ok (.iaload, 1) := by decide +kernel
theorem dX4_does_48 : decode cX4_does 48 = .ok (.istore 5, 2) := by decide +kernel
theorem dX4_does_50 : decode cX4_does 50 = .ok (.aload_n 0, 1) := by decide +kernel
theorem dX4_does_51 : decode cX4_does 51 = .ok (.getfield 34, 3) := by decide +kernel
theorem dX4_does_54 : decode cX4_does 54 = .ok (.bipush 6, 2) := by decide +kernel
theorem dX4_does_56 : decode cX4_does 56 = .ok (.iload_n 1, 1) := by decide +kernel
theorem dX4_does_57 : decode cX4_does 57 = .ok (.imul, 1) := by decide +kernel
theorem dX4_does_58 : decode cX4_does 58 = .ok (.iaload, 1) := by decide +kernel
theorem dX4_does_59 : decode cX4_does 59 = .ok (.lookupswitch 133 #[(98, 113), (102, 124), (103, 41), (114, 70)], 41) := by decide +kernel
theorem dX4_does_100 : decode cX4_does 100 = .ok (.iload_n 2, 1) := by decide +kernel
theorem dX4_does_101 : decode cX4_does 101 = .ok (.iload_n 3, 1) := by decide +kernel
theorem dX4_does_102 : decode cX4_does 102 = .ok (.iload 4, 2) := by decide +kernel
theorem dX4_does_104 : decode cX4_does 104 = .ok (.invokestatic 92, 3) := by decide +kernel
theorem dX4_does_107 : decode cX4_does 107 = .ok (.ifCond .eq 20, 3) := by decide +kernel
theorem dX4_does_110 : decode cX4_does 110 = .ok (.aload_n 0, 1) := by decide +kernel
theorem dX4_does_111 : decode cX4_does 111 = .ok (.bipush 16, 2) := by decide +kernel
theorem dX4_does_113 : decode cX4_does 113 = .ok (.iload_n 3, 1) := by decide +kernel
theorem dX4_does_114 : decode cX4_does 114 = .ok (.imul, 1) := by decide +kernel
theorem dX4_does_115 : decode cX4_does 115 = .ok (.iload_n 2, 1) := by decide +kernel
theorem dX4_does_116 : decode cX4_does 116 = .ok (.iadd, 1) := by decide +kernel
theorem dX4_does_117 : decode cX4_does 117 = .ok (.iload 4, 2) := by decide +kernel
theorem dX4_does_119 : decode cX4_does 119 = .ok (.iload 5, 2) := by decide +kernel
theorem dX4_does_121 : decode cX4_does 121 = .ok (.invokevirtual 69, 3) := by decide +kernel
theorem dX4_does_124 : decode cX4_does 124 = .ok (.goto 4, 3) := by decide +kernel
theorem dX4_does_127 : decode cX4_does 127 = .ok (.iconst (-1), 1) := by decide +kernel
theorem dX4_does_128 : decode cX4_does 128 = .ok (.ireturn, 1) := by decide +kernel
theorem dX4_does_129 : decode cX4_does 129 = .ok (.iload_n 2, 1) := by decide +kernel
theorem dX4_does_130 : decode cX4_does 130 = .ok (.iload_n 3, 1) := by decide +kernel
theorem dX4_does_131 : decode cX4_does 131 = .ok (.iload 4, 2) := by decide +kernel
theorem dX4_does_133 : decode cX4_does 133 = .ok (.invokestatic 92, 3) := by decide +kernel
theorem dX4_does_136 : decode cX4_does 136 = .ok (.ifCond .eq 34, 3) := by decide +kernel
theorem dX4_does_139 : decode cX4_does 139 = .ok (.aload_n 0, 1) := by decide +kernel
theorem dX4_does_140 : decode cX4_does 140 = .ok (.bipush 16, 2) := by decide +kernel
theorem dX4_does_142 : decode cX4_does 142 = .ok (.iload_n 3, 1) := by decide +kernel
theorem dX4_does_143 : decode cX4_does 143 = .ok (.imul, 1) := by decide +kernel
theorem dX4_does_144 : decode cX4_does 144 = .ok (.iload_n 2, 1) := by decide +kernel
theorem dX4_does_145 : decode cX4_does 145 = .ok (.iadd, 1) := by decide +kernel
theorem dX4_does_146 : decode cX4_does 146 = .ok (.iload 4, 2) := by decide +kernel
theorem dX4_does_148 : decode cX4_does 148 = .ok (.aload_n 0, 1) := by decide +kernel
theorem dX4_does_149 : decode cX4_does 149 = .ok (.getfield 34, 3) := by decide +kernel
theorem dX4_does_152 : decode cX4_does 152 = .ok (.bipush 6, 2) := by decide +kernel
theorem dX4_does_154 : decode cX4_does 154 = .ok (.iload_n 1, 1) := by decide +kernel
theorem dX4_does_155 : decode cX4_does 155 = .ok (.imul, 1) := by decide +kernel
theorem dX4_does_156 : decode cX4_does 156 = .ok (.iconst 4, 1) := by decide +kernel
theorem dX4_does_157 : decode cX4_does 157 = .ok (.iadd, 1) := by decide +kernel
theorem dX4_does_158 : decode cX4_does 158 = .ok (.iaload, 1) := by decide +kernel
theorem dX4_does_159 : decode cX4_does 159 = .ok (.iload 5, 2) := by decide +kernel
theorem dX4_does_161 : decode cX4_does 161 = .ok (.iconst 1, 1) := by decide +kernel
theorem dX4_does_162 : decode cX4_does 162 = .ok (.iadd, 1) := by decide +kernel
theorem dX4_does_163 : decode cX4_does 163 = .ok (.imul, 1) := by decide +kernel
theorem dX4_does_164 : decode cX4_does 164 = .ok (.invokevirtual 98, 3) := by decide +kernel
theorem dX4_does_167 : decode cX4_does 167 = .ok (.goto 4, 3) := by decide +kernel
theorem dX4_does_170 : decode cX4_does 170 = .ok (.iconst (-1), 1) := by decide +kernel
theorem dX4_does_171 : decode cX4_does 171 = .ok (.ireturn, 1) := by decide +kernel
theorem dX4_does_172 : decode cX4_does 172 = .ok (.aload_n 0, 1) := by decide +kernel
theorem dX4_does_173 : decode cX4_does 173 = .ok (.iload 5, 2) := by decide +kernel
theorem dX4_does_175 : decode cX4_does 175 = .ok (.iconst 1, 1) := by decide +kernel
theorem dX4_does_176 : decode cX4_does 176 = .ok (.iadd, 1) := by decide +kernel
theorem dX4_does_177 : decode cX4_does 177 = .ok (.iload_n 2, 1) := by decide +kernel
theorem dX4_does_178 : decode cX4_does 178 = .ok (.iload_n 3, 1) := by decide +kernel
theorem dX4_does_179 : decode cX4_does 179 = .ok (.invokevirtual 155, 3) := by decide +kernel
theorem dX4_does_182 : decode cX4_does 182 = .ok (.ireturn, 1) := by decide +kernel
theorem dX4_does_183 : decode cX4_does 183 = .ok (.aload_n 0, 1) := by decide +kernel
theorem dX4_does_184 : decode cX4_does 184 = .ok (.iload 5, 2) := by decide +kernel
theorem dX4_does_186 : decode cX4_does 186 = .ok (.iconst 1, 1) := by decide +kernel
theorem dX4_does_187 : decode cX4_does 187 = .ok (.iadd, 1) := by decide +kernel
theorem dX4_does_188 : decode cX4_does 188 = .ok (.invokevirtual 101, 3) := by decide +kernel
theorem dX4_does_191 : decode cX4_does 191 = .ok (.ireturn, 1) := by decide +kernel
theorem dX4_does_192 : decode cX4_does 192 = .ok (.aload_n 0, 1) := by decide +kernel
theorem dX4_does_193 : decode cX4_does 193 = .ok (.invokevirtual 117, 3) := by decide +kernel
theorem dX4_does_196 : decode cX4_does 196 = .ok (.ireturn, 1) := by decide +kernel
set_option maxRecDepth 20000 in
theorem ggX4_carryOut_X4_isWhole : GoodIn wsX4_carryOut wsX4_isWhole := goodIn_r _ [8, 9, 3, 2, 10, 11, 12, 7, 13, 14, 15, 16, 17, 18, 19, 20, 21, 22, 23, 24, 25, 26, 27, 28, 29, 30, 31, 32, 33, 34, 35, 36, 37, 38, 39, 40, 41, 42, 126, 127, 128, 129, 130, 131, 132, 133, 134, 135, 136, 137, 138, 139, 140] (by decide +kernel) (by decide +kernel)
set_option maxRecDepth 20000 in
theorem gX4_carryOut_X4_isWhole : GoodIn wsX4_carryOut (wsV RX4 152 RX4 yX4_isWhole wsX4_isWhole) := goodIn_app (goodIn_of _ (by decide +kernel)) ggX4_carryOut_X4_isWhole
set_option maxRecDepth 20000 in
theorem ggX4_carryOut_X4_refuses : GoodIn wsX4_carryOut wsX4_refuses := goodIn_r _ [46, 1, 126, 127, 128, 129, 130, 131, 132, 133, 134, 135, 136, 137, 138, 139, 140] (by decide +kernel) (by decide +kernel)
set_option maxRecDepth 20000 in
theorem gX4_carryOut_X4_refuses : GoodIn wsX4_carryOut (wsV RX4 89 RX4 yX4_refuses wsX4_refuses) := goodIn_app (goodIn_of _ (by decide +kernel)) ggX4_carryOut_X4_refuses
set_option maxRecDepth 20000 in
theorem ggX4_carryOut_X4_saves : GoodIn wsX4_carryOut wsX4_saves := goodIn_r _ [50, 51, 52, 53, 54, 55, 7, 56, 126, 127, 128, 129, 130, 131, 132, 133, 134, 135, 136, 137, 138, 139, 140] (by decide +kernel) (by decide +kernel)
set_option maxRecDepth 20000 in
theorem gX4_carryOut_X4_saves : GoodIn wsX4_carryOut (wsV RX4 95 RX4 yX4_saves wsX4_saves) := goodIn_app (goodIn_of _ (by decide +kernel)) ggX4_carryOut_X4_saves
set_option maxRecDepth 20000 in
theorem ggX4_carryOut_X4_does : GoodIn wsX4_carryOut wsX4_does := goodIn_r _ [60, 15, 61, 62, 7, 63, 64, 65, 66, 67, 53, 68, 69, 70, 71, 72, 73, 74, 75, 76, 77, 78, 79, 80, 81, 82, 83, 84, 85, 86, 87, 88, 89, 90, 91, 92, 93, 28, 29, 30, 94, 95, 96, 97, 98, 99, 100, 101, 102, 103, 104, 105, 106, 107, 108, 109, 110, 111, 112, 113, 114, 115, 116, 117, 118, 119, 120, 121, 122, 123, 124, 125, 126, 127, 128, 129, 130, 131, 132, 133, 134, 135, 136, 137, 138, 139, 140] (by decide +kernel) (by decide +kernel)
set_option maxRecDepth 20000 in
theorem gX4_carryOut_X4_does : GoodIn wsX4_carryOut (wsV RX4 158 RX4 yX4_does wsX4_does) := goodIn_app (goodIn_of _ (by decide +kernel)) ggX4_carryOut_X4_does
theorem dX4_carryOut_0 : decode cX4_carryOut 0 = .ok (.aload_n 0, 1) := by decide +kernel
theorem dX4_carryOut_1 : decode cX4_carryOut 1 = .ok (.iconst 0, 1) := by decide +kernel
theorem dX4_carryOut_2 : decode cX4_carryOut 2 = .ok (.putfield 37, 3) := by decide +kernel
theorem dX4_carryOut_5 : decode cX4_carryOut 5 = .ok (.aload_n 0, 1) := by decide +kernel
theorem dX4_carryOut_6 : decode cX4_carryOut 6 = .ok (.invokevirtual 152, 3) := by decide +kernel
theorem dX4_carryOut_9 : decode cX4_carryOut 9 = .ok (.ifCond .ne 9, 3) := by decide +kernel
theorem dX4_carryOut_12 : decode cX4_carryOut 12 = .ok (.aload_n 0, 1) := by decide +kernel
theorem dX4_carryOut_13 : decode cX4_carryOut 13 = .ok (.iconst 1, 1) := by decide +kernel
theorem dX4_carryOut_14 : decode cX4_carryOut 14 = .ok (.invokevirtual 89, 3) := by decide +kernel
theorem dX4_carryOut_17 : decode cX4_carryOut 17 = .ok (.ireturn, 1) := by decide +kernel
theorem dX4_carryOut_18 : decode cX4_carryOut 18 = .ok (.aload_n 0, 1) := by decide +kernel
theorem dX4_carryOut_19 : decode cX4_carryOut 19 = .ok (.invokevirtual 95, 3) := by decide +kernel
theorem dX4_carryOut_22 : decode cX4_carryOut 22 = .ok (.aload_n 0, 1) := by decide +kernel
theorem dX4_carryOut_23 : decode cX4_carryOut 23 = .ok (.iconst 0, 1) := by decide +kernel
theorem dX4_carryOut_24 : decode cX4_carryOut 24 = .ok (.putfield 121, 3) := by decide +kernel
theorem dX4_carryOut_27 : decode cX4_carryOut 27 = .ok (.iconst 0, 1) := by decide +kernel
theorem dX4_carryOut_28 : decode cX4_carryOut 28 = .ok (.istore_n 1, 1) := by decide +kernel
theorem dX4_carryOut_29 : decode cX4_carryOut 29 = .ok (.iload_n 1, 1) := by decide +kernel
theorem dX4_carryOut_30 : decode cX4_carryOut 30 = .ok (.aload_n 0, 1) := by decide +kernel
theorem dX4_carryOut_31 : decode cX4_carryOut 31 = .ok (.getfield 130, 3) := by decide +kernel
theorem dX4_carryOut_34 : decode cX4_carryOut 34 = .ok (.if_icmp .ge 17, 3) := by decide +kernel
theorem dX4_carryOut_37 : decode cX4_carryOut 37 = .ok (.aload_n 0, 1) := by decide +kernel
theorem dX4_carryOut_38 : decode cX4_carryOut 38 = .ok (.iload_n 1, 1) := by decide +kernel
theorem dX4_carryOut_39 : decode cX4_carryOut 39 = .ok (.invokevirtual 158, 3) := by decide +kernel
theorem dX4_carryOut_42 : decode cX4_carryOut 42 = .ok (.ifCond .lt 9, 3) := by decide +kernel
theorem dX4_carryOut_45 : decode cX4_carryOut 45 = .ok (.iinc 1 1, 3) := by decide +kernel
theorem dX4_carryOut_48 : decode cX4_carryOut 48 = .ok (.goto (-19), 3) := by decide +kernel
theorem dX4_carryOut_51 : decode cX4_carryOut 51 = .ok (.iload_n 1, 1) := by decide +kernel
theorem dX4_carryOut_52 : decode cX4_carryOut 52 = .ok (.ireturn, 1) := by decide +kernel
set_option maxRecDepth 20000 in
theorem ggX4_undo_X4_refuses : GoodIn wsX4_undo wsX4_refuses := goodIn_r _ [9, 1, 13, 14, 15, 16, 17, 18, 19, 20, 21, 22, 23, 24, 25, 26, 27] (by decide +kernel) (by decide +kernel)
set_option maxRecDepth 20000 in
theorem gX4_undo_X4_refuses : GoodIn wsX4_undo (wsV RX4 89 RX4 yX4_refuses wsX4_refuses) := goodIn_app (goodIn_of _ (by decide +kernel)) ggX4_undo_X4_refuses
set_option maxRecDepth 20000 in
theorem ggX4_undo_X4_lays : GoodIn wsX4_undo wsX4_lays := goodIn_r _ [12] (by decide +kernel) (by decide +kernel)
set_option maxRecDepth 20000 in
theorem gX4_undo_X4_lays : GoodIn wsX4_undo (va_wsS RX4 44 yX4_lays wsX4_lays) := goodIn_app (goodIn_of _ (by decide +kernel)) ggX4_undo_X4_lays
theorem dX4_undo_0 : decode cX4_undo 0 = .ok (.aload_n 0, 1) := by decide +kernel
theorem dX4_undo_1 : decode cX4_undo 1 = .ok (.iconst 0, 1) := by decide +kernel
theorem dX4_undo_2 : decode cX4_undo 2 = .ok (.putfield 37, 3) := by decide +kernel
theorem dX4_undo_5 : decode cX4_undo 5 = .ok (.aload_n 0, 1) := by decide +kernel
theorem dX4_undo_6 : decode cX4_undo 6 = .ok (.getfield 41, 3) := by decide +kernel
theorem dX4_undo_9 : decode cX4_undo 9 = .ok (.ifCond .ne 9, 3) := by decide +kernel
theorem dX4_undo_12 : decode cX4_undo 12 = .ok (.aload_n 0, 1) := by decide +kernel
theorem dX4_undo_13 : decode cX4_undo 13 = .ok (.iconst 1, 1) := by decide +kernel
theorem dX4_undo_14 : decode cX4_undo 14 = .ok (.invokevirtual 89, 3) := by decide +kernel
theorem dX4_undo_17 : decode cX4_undo 17 = .ok (.ireturn, 1) := by decide +kernel
theorem dX4_undo_18 : decode cX4_undo 18 = .ok (.aload_n 0, 1) := by decide +kernel
theorem dX4_undo_19 : decode cX4_undo 19 = .ok (.dup, 1) := by decide +kernel
theorem dX4_undo_20 : decode cX4_undo 20 = .ok (.getfield 41, 3) := by decide +kernel
theorem dX4_undo_23 : decode cX4_undo 23 = .ok (.iconst 1, 1) := by decide +kernel
theorem dX4_undo_24 : decode cX4_undo 24 = .ok (.isub, 1) := by decide +kernel
theorem dX4_undo_25 : decode cX4_undo 25 = .ok (.putfield 41, 3) := by decide +kernel
theorem dX4_undo_28 : decode cX4_undo 28 = .ok (.aload_n 0, 1) := by decide +kernel
theorem dX4_undo_29 : decode cX4_undo 29 = .ok (.getfield 13, 3) := by decide +kernel
theorem dX4_undo_32 : decode cX4_undo 32 = .ok (.sipush 525, 3) := by decide +kernel
theorem dX4_undo_35 : decode cX4_undo 35 = .ok (.aload_n 0, 1) := by decide +kernel
theorem dX4_undo_36 : decode cX4_undo 36 = .ok (.getfield 41, 3) := by decide +kernel
theorem dX4_undo_39 : decode cX4_undo 39 = .ok (.imul, 1) := by decide +kernel
theorem dX4_undo_40 : decode cX4_undo 40 = .ok (.aload_n 0, 1) := by decide +kernel
theorem dX4_undo_41 : decode cX4_undo 41 = .ok (.getfield 7, 3) := by decide +kernel
theorem dX4_undo_44 : decode cX4_undo 44 = .ok (.iconst 0, 1) := by decide +kernel
theorem dX4_undo_45 : decode cX4_undo 45 = .ok (.invokestatic 44, 3) := by decide +kernel
theorem dX4_undo_48 : decode cX4_undo 48 = .ok (.aload_n 0, 1) := by decide +kernel
theorem dX4_undo_49 : decode cX4_undo 49 = .ok (.getfield 41, 3) := by decide +kernel
theorem dX4_undo_52 : decode cX4_undo 52 = .ok (.ireturn, 1) := by decide +kernel
theorem dX4_savedStates_0 : decode cX4_savedStates 0 = .ok (.aload_n 0, 1) := by decide +kernel
theorem dX4_savedStates_1 : decode cX4_savedStates 1 = .ok (.iconst 0, 1) := by decide +kernel
theorem dX4_savedStates_2 : decode cX4_savedStates 2 = .ok (.putfield 37, 3) := by decide +kernel
theorem dX4_savedStates_5 : decode cX4_savedStates 5 = .ok (.aload_n 0, 1) := by decide +kernel
theorem dX4_savedStates_6 : decode cX4_savedStates 6 = .ok (.getfield 41, 3) := by decide +kernel
theorem dX4_savedStates_9 : decode cX4_savedStates 9 = .ok (.ireturn, 1) := by decide +kernel
set_option maxRecDepth 20000 in
theorem ggX4_allPlots_X4_finds : GoodIn wsX4_allPlots wsX4_finds := goodIn_r _ [6, 1, 7, 8, 9, 10, 5, 11, 12, 13, 14, 15, 16, 17, 18, 19, 20, 21, 22, 23, 24, 25, 26, 27, 28, 29, 30, 31] (by decide +kernel) (by decide +kernel)
set_option maxRecDepth 20000 in
theorem gX4_allPlots_X4_finds : GoodIn wsX4_allPlots (wsV RX4 63 RX4 yX4_finds wsX4_finds) := goodIn_app (goodIn_of _ (by decide +kernel)) ggX4_allPlots_X4_finds
theorem dX4_allPlots_0 : decode cX4_allPlots 0 = .ok (.aload_n 0, 1) := by decide +kernel
theorem dX4_allPlots_1 : decode cX4_allPlots 1 = .ok (.invokevirtual 63, 3) := by decide +kernel
theorem dX4_allPlots_4 : decode cX4_allPlots 4 = .ok (.aload_n 0, 1) := by decide +kernel
theorem dX4_allPlots_5 : decode cX4_allPlots 5 = .ok (.getfield 52, 3) := by decide +kernel
theorem dX4_allPlots_8 : decode cX4_allPlots 8 = .ok (.ireturn, 1) := by decide +kernel
set_option maxRecDepth 20000 in
theorem ggX4_keep_X4_in : GoodIn wsX4_keep wsX4_in := goodIn_r _ [8] (by decide +kernel) (by decide +kernel)
set_option maxRecDepth 20000 in
theorem gX4_keep_X4_in : GoodIn wsX4_keep (va_wsS RX4 48 yX4_in wsX4_in) := goodIn_app (goodIn_of _ (by decide +kernel)) ggX4_keep_X4_in
set_option maxRecDepth 20000 in
theorem ggX4_keep_X4_refuses : GoodIn wsX4_keep wsX4_refuses := goodIn_r _ [12, 1, 34, 35, 36, 37, 38, 39, 40, 41, 42, 43, 44, 45, 46, 47, 48] (by decide +kernel) (by decide +kernel)
set_option maxRecDepth 20000 in
theorem gX4_keep_X4_refuses : GoodIn wsX4_keep (wsV RX4 89 RX4 yX4_refuses wsX4_refuses) := goodIn_app (goodIn_of _ (by decide +kernel)) ggX4_keep_X4_refuses
set_option maxRecDepth 20000 in
theorem ggX4_keep_X4_lays : GoodIn wsX4_keep wsX4_lays := goodIn_r _ [15] (by decide +kernel) (by decide +kernel)
set_option maxRecDepth 20000 in
theorem gX4_keep_X4_lays : GoodIn wsX4_keep (va_wsS RX4 44 yX4_lays wsX4_lays) := goodIn_app (goodIn_of _ (by decide +kernel)) ggX4_keep_X4_lays
set_option maxRecDepth 20000 in
theorem ggX4_keep_X4_allPlots : GoodIn wsX4_keep wsX4_allPlots := goodIn_r _ [19, 20, 21, 22, 23, 7, 24, 25, 26, 27, 28, 29, 30, 31, 32, 33, 2, 34, 35, 36, 37, 38, 39, 40, 41, 42, 43, 44, 45, 46, 47, 48] (by decide +kernel) (by decide +kernel)
set_option maxRecDepth 20000 in
theorem gX4_keep_X4_allPlots : GoodIn wsX4_keep (wsV RX4 161 RX4 yX4_allPlots wsX4_allPlots) := goodIn_app (goodIn_of _ (by decide +kernel)) ggX4_keep_X4_allPlots
theorem dX4_keep_0 : decode cX4_keep 0 = .ok (.aload_n 0, 1) := by decide +kernel
theorem dX4_keep_1 : decode cX4_keep 1 = .ok (.iconst 0, 1) := by decide +kernel
theorem dX4_keep_2 : decode cX4_keep 2 = .ok (.putfield 37, 3) := by decide +kernel
theorem dX4_keep_5 : decode cX4_keep 5 = .ok (.iload_n 1, 1) := by decide +kernel
theorem dX4_keep_6 : decode cX4_keep 6 = .ok (.iconst 0, 1) := by decide +kernel
theorem dX4_keep_7 : decode cX4_keep 7 = .ok (.iconst 1, 1) := by decide +kernel
theorem dX4_keep_8 : decode cX4_keep 8 = .ok (.invokestatic 48, 3) := by decide +kernel
theorem dX4_keep_11 : decode cX4_keep 11 = .ok (.ifCond .ne 9, 3) := by decide +kernel
theorem dX4_keep_14 : decode cX4_keep 14 = .ok (.aload_n 0, 1) := by decide +kernel
theorem dX4_keep_15 : decode cX4_keep 15 = .ok (.iconst 1, 1) := by decide +kernel
theorem dX4_keep_16 : decode cX4_keep 16 = .ok (.invokevirtual 89, 3) := by decide +kernel
theorem dX4_keep_19 : decode cX4_keep 19 = .ok (.ireturn, 1) := by decide +kernel
theorem dX4_keep_20 : decode cX4_keep 20 = .ok (.aload_n 0, 1) := by decide +kernel
theorem dX4_keep_21 : decode cX4_keep 21 = .ok (.getfield 7, 3) := by decide +kernel
theorem dX4_keep_24 : decode cX4_keep 24 = .ok (.iconst 0, 1) := by decide +kernel
theorem dX4_keep_25 : decode cX4_keep 25 = .ok (.aload_n 0, 1) := by decide +kernel
theorem dX4_keep_26 : decode cX4_keep 26 = .ok (.getfield 16, 3) := by decide +kernel
theorem dX4_keep_29 : decode cX4_keep 29 = .ok (.sipush 525, 3) := by decide +kernel
theorem dX4_keep_32 : decode cX4_keep 32 = .ok (.iload_n 1, 1) := by decide +kernel
theorem dX4_keep_33 : decode cX4_keep 33 = .ok (.imul, 1) := by decide +kernel
theorem dX4_keep_34 : decode cX4_keep 34 = .ok (.invokestatic 44, 3) := by decide +kernel
theorem dX4_keep_37 : decode cX4_keep 37 = .ok (.aload_n 0, 1) := by decide +kernel
theorem dX4_keep_38 : decode cX4_keep 38 = .ok (.getfield 19, 3) := by decide +kernel
theorem dX4_keep_41 : decode cX4_keep 41 = .ok (.iload_n 1, 1) := by decide +kernel
theorem dX4_keep_42 : decode cX4_keep 42 = .ok (.iconst 1, 1) := by decide +kernel
theorem dX4_keep_43 : decode cX4_keep 43 = .ok (.iastore, 1) := by decide +kernel
theorem dX4_keep_44 : decode cX4_keep 44 = .ok (.aload_n 0, 1) := by decide +kernel
theorem dX4_keep_45 : decode cX4_keep 45 = .ok (.invokevirtual 161, 3) := by decide +kernel
theorem dX4_keep_48 : decode cX4_keep 48 = .ok (.ireturn, 1) := by decide +kernel
set_option maxRecDepth 20000 in
theorem ggX4_goBack_X4_in : GoodIn wsX4_goBack wsX4_in := goodIn_r _ [8] (by decide +kernel) (by decide +kernel)
set_option maxRecDepth 20000 in
theorem gX4_goBack_X4_in : GoodIn wsX4_goBack (va_wsS RX4 48 yX4_in wsX4_in) := goodIn_app (goodIn_of _ (by decide +kernel)) ggX4_goBack_X4_in
set_option maxRecDepth 20000 in
theorem ggX4_goBack_X4_refuses : GoodIn wsX4_goBack wsX4_refuses := goodIn_r _ [12, 1, 40, 41, 42, 43, 44, 45, 46, 47, 48, 49, 50, 51, 52, 53, 54] (by decide +kernel) (by decide +kernel)
set_option maxRecDepth 20000 in
theorem gX4_goBack_X4_refuses : GoodIn wsX4_goBack (wsV RX4 89 RX4 yX4_refuses wsX4_refuses) := goodIn_app (goodIn_of _ (by decide +kernel)) ggX4_goBack_X4_refuses
set_option maxRecDepth 20000 in
theorem ggX4_goBack_X4_saves : GoodIn wsX4_goBack wsX4_saves := goodIn_r _ [16, 17, 18, 4, 19, 20, 7, 21, 40, 41, 42, 43, 44, 45, 46, 47, 48, 49, 50, 51, 52, 53, 54] (by decide +kernel) (by decide +kernel)
set_option maxRecDepth 20000 in
theorem gX4_goBack_X4_saves : GoodIn wsX4_goBack (wsV RX4 95 RX4 yX4_saves wsX4_saves) := goodIn_app (goodIn_of _ (by decide +kernel)) ggX4_goBack_X4_saves
set_option maxRecDepth 20000 in
theorem ggX4_goBack_X4_lays : GoodIn wsX4_goBack wsX4_lays := goodIn_r _ [21] (by decide +kernel) (by decide +kernel)
set_option maxRecDepth 20000 in
theorem gX4_goBack_X4_lays : GoodIn wsX4_goBack (va_wsS RX4 44 yX4_lays wsX4_lays) := goodIn_app (goodIn_of _ (by decide +kernel)) ggX4_goBack_X4_lays
set_option maxRecDepth 20000 in
theorem ggX4_goBack_X4_allPlots : GoodIn wsX4_goBack wsX4_allPlots := goodIn_r _ [25, 26, 27, 28, 29, 7, 30, 31, 32, 33, 34, 35, 36, 37, 38, 39, 4, 40, 41, 42, 43, 44, 45, 46, 47, 48, 49, 50, 51, 52, 53, 54] (by decide +kernel) (by decide +kernel)
set_option maxRecDepth 20000 in
theorem gX4_goBack_X4_allPlots : GoodIn wsX4_goBack (wsV RX4 161 RX4 yX4_allPlots wsX4_allPlots) := goodIn_app (goodIn_of _ (by decide +kernel)) ggX4_goBack_X4_allPlots
theorem dX4_goBack_0 : decode cX4_goBack 0 = .ok (.aload_n 0, 1) := by decide +kernel
theorem dX4_goBack_1 : decode cX4_goBack 1 = .ok (.iconst 0, 1) := by decide +kernel
theorem dX4_goBack_2 : decode cX4_goBack 2 = .ok (.putfield 37, 3) := by decide +kernel
theorem dX4_goBack_5 : decode cX4_goBack 5 = .ok (.iload_n 1, 1) := by decide +kernel
theorem dX4_goBack_6 : decode cX4_goBack 6 = .ok (.iconst 0, 1) := by decide +kernel
