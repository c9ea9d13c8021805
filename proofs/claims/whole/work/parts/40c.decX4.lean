theorem dX4_goBack_7 : decode cX4_goBack 7 = .ok (.iconst 1, 1) := by decide +kernel
theorem dX4_goBack_8 : decode cX4_goBack 8 = .ok (.invokestatic 48, 3) := by decide +kernel
theorem dX4_goBack_11 : decode cX4_goBack 11 = .ok (.ifCond .ne 9, 3) := by decide +kernel
theorem dX4_goBack_14 : decode cX4_goBack 14 = .ok (.aload_n 0, 1) := by decide +kernel
theorem dX4_goBack_15 : decode cX4_goBack 15 = .ok (.iconst 1, 1) := by decide +kernel
theorem dX4_goBack_16 : decode cX4_goBack 16 = .ok (.invokevirtual 89, 3) := by decide +kernel
theorem dX4_goBack_19 : decode cX4_goBack 19 = .ok (.ireturn, 1) := by decide +kernel
theorem dX4_goBack_20 : decode cX4_goBack 20 = .ok (.aload_n 0, 1) := by decide +kernel
theorem dX4_goBack_21 : decode cX4_goBack 21 = .ok (.getfield 19, 3) := by decide +kernel
theorem dX4_goBack_24 : decode cX4_goBack 24 = .ok (.iload_n 1, 1) := by decide +kernel
theorem dX4_goBack_25 : decode cX4_goBack 25 = .ok (.iaload, 1) := by decide +kernel
theorem dX4_goBack_26 : decode cX4_goBack 26 = .ok (.ifCond .ne 9, 3) := by decide +kernel
theorem dX4_goBack_29 : decode cX4_goBack 29 = .ok (.aload_n 0, 1) := by decide +kernel
theorem dX4_goBack_30 : decode cX4_goBack 30 = .ok (.iconst 2, 1) := by decide +kernel
theorem dX4_goBack_31 : decode cX4_goBack 31 = .ok (.invokevirtual 89, 3) := by decide +kernel
theorem dX4_goBack_34 : decode cX4_goBack 34 = .ok (.ireturn, 1) := by decide +kernel
theorem dX4_goBack_35 : decode cX4_goBack 35 = .ok (.aload_n 0, 1) := by decide +kernel
theorem dX4_goBack_36 : decode cX4_goBack 36 = .ok (.invokevirtual 95, 3) := by decide +kernel
theorem dX4_goBack_39 : decode cX4_goBack 39 = .ok (.aload_n 0, 1) := by decide +kernel
theorem dX4_goBack_40 : decode cX4_goBack 40 = .ok (.getfield 16, 3) := by decide +kernel
theorem dX4_goBack_43 : decode cX4_goBack 43 = .ok (.sipush 525, 3) := by decide +kernel
theorem dX4_goBack_46 : decode cX4_goBack 46 = .ok (.iload_n 1, 1) := by decide +kernel
theorem dX4_goBack_47 : decode cX4_goBack 47 = .ok (.imul, 1) := by decide +kernel
theorem dX4_goBack_48 : decode cX4_goBack 48 = .ok (.aload_n 0, 1) := by decide +kernel
theorem dX4_goBack_49 : decode cX4_goBack 49 = .ok (.getfield 7, 3) := by decide +kernel
theorem dX4_goBack_52 : decode cX4_goBack 52 = .ok (.iconst 0, 1) := by decide +kernel
theorem dX4_goBack_53 : decode cX4_goBack 53 = .ok (.invokestatic 44, 3) := by decide +kernel
theorem dX4_goBack_56 : decode cX4_goBack 56 = .ok (.aload_n 0, 1) := by decide +kernel
theorem dX4_goBack_57 : decode cX4_goBack 57 = .ok (.invokevirtual 161, 3) := by decide +kernel
theorem dX4_goBack_60 : decode cX4_goBack 60 = .ok (.ireturn, 1) := by decide +kernel
set_option maxRecDepth 20000 in
theorem ggX4_ownerAt_X4_isCell : GoodIn wsX4_ownerAt wsX4_isCell := goodIn_r _ [6, 7, 8, 5, 9] (by decide +kernel) (by decide +kernel)
set_option maxRecDepth 20000 in
theorem gX4_ownerAt_X4_isCell : GoodIn wsX4_ownerAt (va_wsS RX4 82 yX4_isCell wsX4_isCell) := goodIn_app (goodIn_of _ (by decide +kernel)) ggX4_ownerAt_X4_isCell
set_option maxRecDepth 20000 in
theorem ggX4_ownerAt_X4_refuses : GoodIn wsX4_ownerAt wsX4_refuses := goodIn_r _ [13, 1, 14, 15, 16, 17, 18, 19, 20, 21, 22, 23, 24, 25, 26, 27, 28] (by decide +kernel) (by decide +kernel)
set_option maxRecDepth 20000 in
theorem gX4_ownerAt_X4_refuses : GoodIn wsX4_ownerAt (wsV RX4 89 RX4 yX4_refuses wsX4_refuses) := goodIn_app (goodIn_of _ (by decide +kernel)) ggX4_ownerAt_X4_refuses
theorem dX4_ownerAt_0 : decode cX4_ownerAt 0 = .ok (.aload_n 0, 1) := by decide +kernel
theorem dX4_ownerAt_1 : decode cX4_ownerAt 1 = .ok (.iconst 0, 1) := by decide +kernel
theorem dX4_ownerAt_2 : decode cX4_ownerAt 2 = .ok (.putfield 37, 3) := by decide +kernel
theorem dX4_ownerAt_5 : decode cX4_ownerAt 5 = .ok (.iload_n 1, 1) := by decide +kernel
theorem dX4_ownerAt_6 : decode cX4_ownerAt 6 = .ok (.iload_n 2, 1) := by decide +kernel
theorem dX4_ownerAt_7 : decode cX4_ownerAt 7 = .ok (.invokestatic 82, 3) := by decide +kernel
theorem dX4_ownerAt_10 : decode cX4_ownerAt 10 = .ok (.ifCond .eq 17, 3) := by decide +kernel
theorem dX4_ownerAt_13 : decode cX4_ownerAt 13 = .ok (.aload_n 0, 1) := by decide +kernel
theorem dX4_ownerAt_14 : decode cX4_ownerAt 14 = .ok (.getfield 7, 3) := by decide +kernel
theorem dX4_ownerAt_17 : decode cX4_ownerAt 17 = .ok (.bipush 16, 2) := by decide +kernel
theorem dX4_ownerAt_19 : decode cX4_ownerAt 19 = .ok (.iload_n 2, 1) := by decide +kernel
theorem dX4_ownerAt_20 : decode cX4_ownerAt 20 = .ok (.imul, 1) := by decide +kernel
theorem dX4_ownerAt_21 : decode cX4_ownerAt 21 = .ok (.iload_n 1, 1) := by decide +kernel
theorem dX4_ownerAt_22 : decode cX4_ownerAt 22 = .ok (.iadd, 1) := by decide +kernel
theorem dX4_ownerAt_23 : decode cX4_ownerAt 23 = .ok (.iaload, 1) := by decide +kernel
theorem dX4_ownerAt_24 : decode cX4_ownerAt 24 = .ok (.goto 8, 3) := by decide +kernel
theorem dX4_ownerAt_27 : decode cX4_ownerAt 27 = .ok (.aload_n 0, 1) := by decide +kernel
theorem dX4_ownerAt_28 : decode cX4_ownerAt 28 = .ok (.iconst 1, 1) := by decide +kernel
theorem dX4_ownerAt_29 : decode cX4_ownerAt 29 = .ok (.invokevirtual 89, 3) := by decide +kernel
theorem dX4_ownerAt_32 : decode cX4_ownerAt 32 = .ok (.ireturn, 1) := by decide +kernel
set_option maxRecDepth 20000 in
theorem ggX4_heightAt_X4_isCell : GoodIn wsX4_heightAt wsX4_isCell := goodIn_r _ [6, 7, 8, 5, 9] (by decide +kernel) (by decide +kernel)
set_option maxRecDepth 20000 in
theorem gX4_heightAt_X4_isCell : GoodIn wsX4_heightAt (va_wsS RX4 82 yX4_isCell wsX4_isCell) := goodIn_app (goodIn_of _ (by decide +kernel)) ggX4_heightAt_X4_isCell
set_option maxRecDepth 20000 in
theorem ggX4_heightAt_X4_refuses : GoodIn wsX4_heightAt wsX4_refuses := goodIn_r _ [13, 1, 14, 15, 16, 17, 18, 19, 20, 21, 22, 23, 24, 25, 26, 27, 28] (by decide +kernel) (by decide +kernel)
set_option maxRecDepth 20000 in
theorem gX4_heightAt_X4_refuses : GoodIn wsX4_heightAt (wsV RX4 89 RX4 yX4_refuses wsX4_refuses) := goodIn_app (goodIn_of _ (by decide +kernel)) ggX4_heightAt_X4_refuses
theorem dX4_heightAt_0 : decode cX4_heightAt 0 = .ok (.aload_n 0, 1) := by decide +kernel
theorem dX4_heightAt_1 : decode cX4_heightAt 1 = .ok (.iconst 0, 1) := by decide +kernel
theorem dX4_heightAt_2 : decode cX4_heightAt 2 = .ok (.putfield 37, 3) := by decide +kernel
theorem dX4_heightAt_5 : decode cX4_heightAt 5 = .ok (.iload_n 1, 1) := by decide +kernel
theorem dX4_heightAt_6 : decode cX4_heightAt 6 = .ok (.iload_n 2, 1) := by decide +kernel
theorem dX4_heightAt_7 : decode cX4_heightAt 7 = .ok (.invokestatic 82, 3) := by decide +kernel
theorem dX4_heightAt_10 : decode cX4_heightAt 10 = .ok (.ifCond .eq 21, 3) := by decide +kernel
theorem dX4_heightAt_13 : decode cX4_heightAt 13 = .ok (.aload_n 0, 1) := by decide +kernel
theorem dX4_heightAt_14 : decode cX4_heightAt 14 = .ok (.getfield 7, 3) := by decide +kernel
theorem dX4_heightAt_17 : decode cX4_heightAt 17 = .ok (.sipush 256, 3) := by decide +kernel
theorem dX4_heightAt_20 : decode cX4_heightAt 20 = .ok (.bipush 16, 2) := by decide +kernel
theorem dX4_heightAt_22 : decode cX4_heightAt 22 = .ok (.iload_n 2, 1) := by decide +kernel
theorem dX4_heightAt_23 : decode cX4_heightAt 23 = .ok (.imul, 1) := by decide +kernel
theorem dX4_heightAt_24 : decode cX4_heightAt 24 = .ok (.iadd, 1) := by decide +kernel
theorem dX4_heightAt_25 : decode cX4_heightAt 25 = .ok (.iload_n 1, 1) := by decide +kernel
theorem dX4_heightAt_26 : decode cX4_heightAt 26 = .ok (.iadd, 1) := by decide +kernel
theorem dX4_heightAt_27 : decode cX4_heightAt 27 = .ok (.iaload, 1) := by decide +kernel
theorem dX4_heightAt_28 : decode cX4_heightAt 28 = .ok (.goto 8, 3) := by decide +kernel
theorem dX4_heightAt_31 : decode cX4_heightAt 31 = .ok (.aload_n 0, 1) := by decide +kernel
theorem dX4_heightAt_32 : decode cX4_heightAt 32 = .ok (.iconst 1, 1) := by decide +kernel
theorem dX4_heightAt_33 : decode cX4_heightAt 33 = .ok (.invokevirtual 89, 3) := by decide +kernel
theorem dX4_heightAt_36 : decode cX4_heightAt 36 = .ok (.ireturn, 1) := by decide +kernel
set_option maxRecDepth 20000 in
theorem ggX4_plotSizeAt_X4_isCell : GoodIn wsX4_plotSizeAt wsX4_isCell := goodIn_r _ [6, 7, 8, 5, 9] (by decide +kernel) (by decide +kernel)
set_option maxRecDepth 20000 in
theorem gX4_plotSizeAt_X4_isCell : GoodIn wsX4_plotSizeAt (va_wsS RX4 82 yX4_isCell wsX4_isCell) := goodIn_app (goodIn_of _ (by decide +kernel)) ggX4_plotSizeAt_X4_isCell
set_option maxRecDepth 20000 in
theorem ggX4_plotSizeAt_X4_plotAt : GoodIn wsX4_plotSizeAt wsX4_plotAt := goodIn_r _ [13, 14, 15, 2, 16, 17, 18, 5, 19, 20, 21, 22, 23, 24, 25, 26, 27, 7, 8, 9, 32, 33, 34, 35, 36, 37, 38, 39, 40, 41, 42, 43, 44, 45, 46] (by decide +kernel) (by decide +kernel)
set_option maxRecDepth 20000 in
theorem gX4_plotSizeAt_X4_plotAt : GoodIn wsX4_plotSizeAt (wsV RX4 107 RX4 yX4_plotAt wsX4_plotAt) := goodIn_app (goodIn_of _ (by decide +kernel)) ggX4_plotSizeAt_X4_plotAt
set_option maxRecDepth 20000 in
theorem ggX4_plotSizeAt_X4_refuses : GoodIn wsX4_plotSizeAt wsX4_refuses := goodIn_r _ [31, 1, 32, 33, 34, 35, 36, 37, 38, 39, 40, 41, 42, 43, 44, 45, 46] (by decide +kernel) (by decide +kernel)
set_option maxRecDepth 20000 in
theorem gX4_plotSizeAt_X4_refuses : GoodIn wsX4_plotSizeAt (wsV RX4 89 RX4 yX4_refuses wsX4_refuses) := goodIn_app (goodIn_of _ (by decide +kernel)) ggX4_plotSizeAt_X4_refuses
theorem dX4_plotSizeAt_0 : decode cX4_plotSizeAt 0 = .ok (.aload_n 0, 1) := by decide +kernel
theorem dX4_plotSizeAt_1 : decode cX4_plotSizeAt 1 = .ok (.iconst 0, 1) := by decide +kernel
theorem dX4_plotSizeAt_2 : decode cX4_plotSizeAt 2 = .ok (.putfield 37, 3) := by decide +kernel
theorem dX4_plotSizeAt_5 : decode cX4_plotSizeAt 5 = .ok (.iload_n 1, 1) := by decide +kernel
theorem dX4_plotSizeAt_6 : decode cX4_plotSizeAt 6 = .ok (.iload_n 2, 1) := by decide +kernel
theorem dX4_plotSizeAt_7 : decode cX4_plotSizeAt 7 = .ok (.invokestatic 82, 3) := by decide +kernel
theorem dX4_plotSizeAt_10 : decode cX4_plotSizeAt 10 = .ok (.ifCond .eq 17, 3) := by decide +kernel
theorem dX4_plotSizeAt_13 : decode cX4_plotSizeAt 13 = .ok (.aload_n 0, 1) := by decide +kernel
theorem dX4_plotSizeAt_14 : decode cX4_plotSizeAt 14 = .ok (.getfield 28, 3) := by decide +kernel
theorem dX4_plotSizeAt_17 : decode cX4_plotSizeAt 17 = .ok (.aload_n 0, 1) := by decide +kernel
theorem dX4_plotSizeAt_18 : decode cX4_plotSizeAt 18 = .ok (.iload_n 1, 1) := by decide +kernel
theorem dX4_plotSizeAt_19 : decode cX4_plotSizeAt 19 = .ok (.iload_n 2, 1) := by decide +kernel
theorem dX4_plotSizeAt_20 : decode cX4_plotSizeAt 20 = .ok (.invokevirtual 107, 3) := by decide +kernel
theorem dX4_plotSizeAt_23 : decode cX4_plotSizeAt 23 = .ok (.iaload, 1) := by decide +kernel
theorem dX4_plotSizeAt_24 : decode cX4_plotSizeAt 24 = .ok (.goto 8, 3) := by decide +kernel
theorem dX4_plotSizeAt_27 : decode cX4_plotSizeAt 27 = .ok (.aload_n 0, 1) := by decide +kernel
theorem dX4_plotSizeAt_28 : decode cX4_plotSizeAt 28 = .ok (.iconst 1, 1) := by decide +kernel
theorem dX4_plotSizeAt_29 : decode cX4_plotSizeAt 29 = .ok (.invokevirtual 89, 3) := by decide +kernel
theorem dX4_plotSizeAt_32 : decode cX4_plotSizeAt 32 = .ok (.ireturn, 1) := by decide +kernel
set_option maxRecDepth 20000 in
theorem ggX4_plotRankAt_X4_isCell : GoodIn wsX4_plotRankAt wsX4_isCell := goodIn_r _ [5, 6, 7, 4, 8] (by decide +kernel) (by decide +kernel)
set_option maxRecDepth 20000 in
theorem gX4_plotRankAt_X4_isCell : GoodIn wsX4_plotRankAt (va_wsS RX4 82 yX4_isCell wsX4_isCell) := goodIn_app (goodIn_of _ (by decide +kernel)) ggX4_plotRankAt_X4_isCell
set_option maxRecDepth 20000 in
theorem ggX4_plotRankAt_X4_plotAt : GoodIn wsX4_plotRankAt wsX4_plotAt := goodIn_r _ [12, 13, 14, 15, 16, 17, 18, 4, 19, 20, 21, 22, 23, 24, 25, 26, 27, 6, 7, 8, 32, 33, 34, 35, 36, 37, 38, 39, 40, 41, 42, 43, 44, 45, 46] (by decide +kernel) (by decide +kernel)
set_option maxRecDepth 20000 in
theorem gX4_plotRankAt_X4_plotAt : GoodIn wsX4_plotRankAt (wsV RX4 107 RX4 yX4_plotAt wsX4_plotAt) := goodIn_app (goodIn_of _ (by decide +kernel)) ggX4_plotRankAt_X4_plotAt
set_option maxRecDepth 20000 in
theorem ggX4_plotRankAt_X4_refuses : GoodIn wsX4_plotRankAt wsX4_refuses := goodIn_r _ [31, 1, 32, 33, 34, 35, 36, 37, 38, 39, 40, 41, 42, 43, 44, 45, 46] (by decide +kernel) (by decide +kernel)
set_option maxRecDepth 20000 in
theorem gX4_plotRankAt_X4_refuses : GoodIn wsX4_plotRankAt (wsV RX4 89 RX4 yX4_refuses wsX4_refuses) := goodIn_app (goodIn_of _ (by decide +kernel)) ggX4_plotRankAt_X4_refuses
theorem dX4_plotRankAt_0 : decode cX4_plotRankAt 0 = .ok (.aload_n 0, 1) := by decide +kernel
theorem dX4_plotRankAt_1 : decode cX4_plotRankAt 1 = .ok (.iconst 0, 1) := by decide +kernel
theorem dX4_plotRankAt_2 : decode cX4_plotRankAt 2 = .ok (.putfield 37, 3) := by decide +kernel
theorem dX4_plotRankAt_5 : decode cX4_plotRankAt 5 = .ok (.iload_n 1, 1) := by decide +kernel
theorem dX4_plotRankAt_6 : decode cX4_plotRankAt 6 = .ok (.iload_n 2, 1) := by decide +kernel
theorem dX4_plotRankAt_7 : decode cX4_plotRankAt 7 = .ok (.invokestatic 82, 3) := by decide +kernel
theorem dX4_plotRankAt_10 : decode cX4_plotRankAt 10 = .ok (.ifCond .eq 12, 3) := by decide +kernel
theorem dX4_plotRankAt_13 : decode cX4_plotRankAt 13 = .ok (.aload_n 0, 1) := by decide +kernel
theorem dX4_plotRankAt_14 : decode cX4_plotRankAt 14 = .ok (.iload_n 1, 1) := by decide +kernel
theorem dX4_plotRankAt_15 : decode cX4_plotRankAt 15 = .ok (.iload_n 2, 1) := by decide +kernel
theorem dX4_plotRankAt_16 : decode cX4_plotRankAt 16 = .ok (.invokevirtual 107, 3) := by decide +kernel
theorem dX4_plotRankAt_19 : decode cX4_plotRankAt 19 = .ok (.goto 8, 3) := by decide +kernel
theorem dX4_plotRankAt_22 : decode cX4_plotRankAt 22 = .ok (.aload_n 0, 1) := by decide +kernel
theorem dX4_plotRankAt_23 : decode cX4_plotRankAt 23 = .ok (.iconst 1, 1) := by decide +kernel
theorem dX4_plotRankAt_24 : decode cX4_plotRankAt 24 = .ok (.invokevirtual 89, 3) := by decide +kernel
theorem dX4_plotRankAt_27 : decode cX4_plotRankAt 27 = .ok (.ireturn, 1) := by decide +kernel
set_option maxRecDepth 20000 in
theorem ggX4_plotPriceAt_X4_isCell : GoodIn wsX4_plotPriceAt wsX4_isCell := goodIn_r _ [7, 8, 9, 6, 10] (by decide +kernel) (by decide +kernel)
set_option maxRecDepth 20000 in
theorem gX4_plotPriceAt_X4_isCell : GoodIn wsX4_plotPriceAt (va_wsS RX4 82 yX4_isCell wsX4_isCell) := goodIn_app (goodIn_of _ (by decide +kernel)) ggX4_plotPriceAt_X4_isCell
set_option maxRecDepth 20000 in
theorem ggX4_plotPriceAt_X4_refuses : GoodIn wsX4_plotPriceAt wsX4_refuses := goodIn_r _ [14, 1, 32, 33, 34, 35, 36, 37, 38, 39, 40, 41, 42, 43, 44, 45, 46] (by decide +kernel) (by decide +kernel)
set_option maxRecDepth 20000 in
theorem gX4_plotPriceAt_X4_refuses : GoodIn wsX4_plotPriceAt (wsV RX4 89 RX4 yX4_refuses wsX4_refuses) := goodIn_app (goodIn_of _ (by decide +kernel)) ggX4_plotPriceAt_X4_refuses
set_option maxRecDepth 20000 in
theorem ggX4_plotPriceAt_X4_plotAt : GoodIn wsX4_plotPriceAt wsX4_plotAt := goodIn_r _ [18, 19, 20, 2, 21, 22, 23, 6, 24, 25, 26, 27, 28, 29, 30, 31, 3, 8, 9, 10, 32, 33, 34, 35, 36, 37, 38, 39, 40, 41, 42, 43, 44, 45, 46] (by decide +kernel) (by decide +kernel)
set_option maxRecDepth 20000 in
theorem gX4_plotPriceAt_X4_plotAt : GoodIn wsX4_plotPriceAt (wsV RX4 107 RX4 yX4_plotAt wsX4_plotAt) := goodIn_app (goodIn_of _ (by decide +kernel)) ggX4_plotPriceAt_X4_plotAt
theorem dX4_plotPriceAt_0 : decode cX4_plotPriceAt 0 = .ok (.aload_n 0, 1) := by decide +kernel
theorem dX4_plotPriceAt_1 : decode cX4_plotPriceAt 1 = .ok (.iconst 0, 1) := by decide +kernel
theorem dX4_plotPriceAt_2 : decode cX4_plotPriceAt 2 = .ok (.putfield 37, 3) := by decide +kernel
theorem dX4_plotPriceAt_5 : decode cX4_plotPriceAt 5 = .ok (.iload_n 1, 1) := by decide +kernel
theorem dX4_plotPriceAt_6 : decode cX4_plotPriceAt 6 = .ok (.iload_n 2, 1) := by decide +kernel
theorem dX4_plotPriceAt_7 : decode cX4_plotPriceAt 7 = .ok (.invokestatic 82, 3) := by decide +kernel
theorem dX4_plotPriceAt_10 : decode cX4_plotPriceAt 10 = .ok (.ifCond .ne 9, 3) := by decide +kernel
theorem dX4_plotPriceAt_13 : decode cX4_plotPriceAt 13 = .ok (.aload_n 0, 1) := by decide +kernel
theorem dX4_plotPriceAt_14 : decode cX4_plotPriceAt 14 = .ok (.iconst 1, 1) := by decide +kernel
theorem dX4_plotPriceAt_15 : decode cX4_plotPriceAt 15 = .ok (.invokevirtual 89, 3) := by decide +kernel
theorem dX4_plotPriceAt_18 : decode cX4_plotPriceAt 18 = .ok (.ireturn, 1) := by decide +kernel
theorem dX4_plotPriceAt_19 : decode cX4_plotPriceAt 19 = .ok (.aload_n 0, 1) := by decide +kernel
theorem dX4_plotPriceAt_20 : decode cX4_plotPriceAt 20 = .ok (.getfield 28, 3) := by decide +kernel
theorem dX4_plotPriceAt_23 : decode cX4_plotPriceAt 23 = .ok (.aload_n 0, 1) := by decide +kernel
theorem dX4_plotPriceAt_24 : decode cX4_plotPriceAt 24 = .ok (.iload_n 1, 1) := by decide +kernel
theorem dX4_plotPriceAt_25 : decode cX4_plotPriceAt 25 = .ok (.iload_n 2, 1) := by decide +kernel
theorem dX4_plotPriceAt_26 : decode cX4_plotPriceAt 26 = .ok (.invokevirtual 107, 3) := by decide +kernel
theorem dX4_plotPriceAt_29 : decode cX4_plotPriceAt 29 = .ok (.iaload, 1) := by decide +kernel
theorem dX4_plotPriceAt_30 : decode cX4_plotPriceAt 30 = .ok (.istore_n 3, 1) := by decide +kernel
theorem dX4_plotPriceAt_31 : decode cX4_plotPriceAt 31 = .ok (.aload_n 0, 1) := by decide +kernel
theorem dX4_plotPriceAt_32 : decode cX4_plotPriceAt 32 = .ok (.getfield 7, 3) := by decide +kernel
theorem dX4_plotPriceAt_35 : decode cX4_plotPriceAt 35 = .ok (.sipush 520, 3) := by decide +kernel
theorem dX4_plotPriceAt_38 : decode cX4_plotPriceAt 38 = .ok (.iaload, 1) := by decide +kernel
theorem dX4_plotPriceAt_39 : decode cX4_plotPriceAt 39 = .ok (.iload_n 3, 1) := by decide +kernel
theorem dX4_plotPriceAt_40 : decode cX4_plotPriceAt 40 = .ok (.imul, 1) := by decide +kernel
theorem dX4_plotPriceAt_41 : decode cX4_plotPriceAt 41 = .ok (.iload_n 3, 1) := by decide +kernel
theorem dX4_plotPriceAt_42 : decode cX4_plotPriceAt 42 = .ok (.imul, 1) := by decide +kernel
theorem dX4_plotPriceAt_43 : decode cX4_plotPriceAt 43 = .ok (.ireturn, 1) := by decide +kernel
set_option maxRecDepth 20000 in
theorem ggX4_plots_X4_allPlots : GoodIn wsX4_plots wsX4_allPlots := goodIn_r _ [6, 7, 8, 9, 10, 5, 11, 12, 13, 14, 15, 16, 17, 18, 19, 20, 21, 22, 23, 24, 25, 26, 27, 28, 29, 30, 31, 32, 33, 34, 35, 36] (by decide +kernel) (by decide +kernel)
set_option maxRecDepth 20000 in
theorem gX4_plots_X4_allPlots : GoodIn wsX4_plots (wsV RX4 161 RX4 yX4_allPlots wsX4_allPlots) := goodIn_app (goodIn_of _ (by decide +kernel)) ggX4_plots_X4_allPlots
theorem dX4_plots_0 : decode cX4_plots 0 = .ok (.aload_n 0, 1) := by decide +kernel
theorem dX4_plots_1 : decode cX4_plots 1 = .ok (.iconst 0, 1) := by decide +kernel
theorem dX4_plots_2 : decode cX4_plots 2 = .ok (.putfield 37, 3) := by decide +kernel
theorem dX4_plots_5 : decode cX4_plots 5 = .ok (.aload_n 0, 1) := by decide +kernel
theorem dX4_plots_6 : decode cX4_plots 6 = .ok (.invokevirtual 161, 3) := by decide +kernel
theorem dX4_plots_9 : decode cX4_plots 9 = .ok (.ireturn, 1) := by decide +kernel
set_option maxRecDepth 20000 in
theorem ggX4_isPlot_X4_allPlots : GoodIn wsX4_isPlot wsX4_allPlots := goodIn_r _ [5, 6, 7, 8, 9, 4, 10, 11, 12, 13, 14, 15, 16, 17, 18, 19, 20, 24, 25, 26, 27, 28, 29, 30, 31, 32, 33, 34, 35, 36, 37, 38] (by decide +kernel) (by decide +kernel)
set_option maxRecDepth 20000 in
theorem gX4_isPlot_X4_allPlots : GoodIn wsX4_isPlot (wsV RX4 161 RX4 yX4_allPlots wsX4_allPlots) := goodIn_app (goodIn_of _ (by decide +kernel)) ggX4_isPlot_X4_allPlots
set_option maxRecDepth 20000 in
theorem ggX4_isPlot_X4_in : GoodIn wsX4_isPlot wsX4_in := goodIn_r _ [23] (by decide +kernel) (by decide +kernel)
set_option maxRecDepth 20000 in
theorem gX4_isPlot_X4_in : GoodIn wsX4_isPlot (va_wsS RX4 48 yX4_in wsX4_in) := goodIn_app (goodIn_of _ (by decide +kernel)) ggX4_isPlot_X4_in
theorem dX4_isPlot_0 : decode cX4_isPlot 0 = .ok (.iload_n 1, 1) := by decide +kernel
theorem dX4_isPlot_1 : decode cX4_isPlot 1 = .ok (.iconst 0, 1) := by decide +kernel
theorem dX4_isPlot_2 : decode cX4_isPlot 2 = .ok (.aload_n 0, 1) := by decide +kernel
theorem dX4_isPlot_3 : decode cX4_isPlot 3 = .ok (.invokevirtual 161, 3) := by decide +kernel
theorem dX4_isPlot_6 : decode cX4_isPlot 6 = .ok (.iconst 1, 1) := by decide +kernel
theorem dX4_isPlot_7 : decode cX4_isPlot 7 = .ok (.isub, 1) := by decide +kernel
theorem dX4_isPlot_8 : decode cX4_isPlot 8 = .ok (.invokestatic 48, 3) := by decide +kernel
theorem dX4_isPlot_11 : decode cX4_isPlot 11 = .ok (.ireturn, 1) := by decide +kernel
set_option maxRecDepth 20000 in
theorem ggX4_plotOwner_X4_isPlot : GoodIn wsX4_plotOwner wsX4_isPlot := goodIn_r _ [6, 7, 8, 9, 5, 10, 11, 12, 13, 14, 15, 16, 17, 18, 19, 20, 21, 22, 23, 24, 25, 26, 27, 28, 37, 38, 39, 40, 41, 42, 43, 44, 45, 46, 47, 48, 49, 50, 51] (by decide +kernel) (by decide +kernel)
set_option maxRecDepth 20000 in
theorem gX4_plotOwner_X4_isPlot : GoodIn wsX4_plotOwner (wsV RX4 164 RX4 yX4_isPlot wsX4_isPlot) := goodIn_app (goodIn_of _ (by decide +kernel)) ggX4_plotOwner_X4_isPlot
set_option maxRecDepth 20000 in
theorem ggX4_plotOwner_X4_ownerOf : GoodIn wsX4_plotOwner wsX4_ownerOf := goodIn_r _ [32, 25, 16, 37, 38, 39, 40, 41, 42, 43, 44, 45, 46, 47, 48, 49, 50, 51] (by decide +kernel) (by decide +kernel)
set_option maxRecDepth 20000 in
theorem gX4_plotOwner_X4_ownerOf : GoodIn wsX4_plotOwner (wsV RX4 66 RX4 yX4_ownerOf wsX4_ownerOf) := goodIn_app (goodIn_of _ (by decide +kernel)) ggX4_plotOwner_X4_ownerOf
set_option maxRecDepth 20000 in
theorem ggX4_plotOwner_X4_refuses : GoodIn wsX4_plotOwner wsX4_refuses := goodIn_r _ [36, 1, 37, 38, 39, 40, 41, 42, 43, 44, 45, 46, 47, 48, 49, 50, 51] (by decide +kernel) (by decide +kernel)
set_option maxRecDepth 20000 in
theorem gX4_plotOwner_X4_refuses : GoodIn wsX4_plotOwner (wsV RX4 89 RX4 yX4_refuses wsX4_refuses) := goodIn_app (goodIn_of _ (by decide +kernel)) ggX4_plotOwner_X4_refuses
theorem dX4_plotOwner_0 : decode cX4_plotOwner 0 = .ok (.aload_n 0, 1) := by decide +kernel
theorem dX4_plotOwner_1 : decode cX4_plotOwner 1 = .ok (.iconst 0, 1) := by decide +kernel
theorem dX4_plotOwner_2 : decode cX4_plotOwner 2 = .ok (.putfield 37, 3) := by decide +kernel
theorem dX4_plotOwner_5 : decode cX4_plotOwner 5 = .ok (.aload_n 0, 1) := by decide +kernel
theorem dX4_plotOwner_6 : decode cX4_plotOwner 6 = .ok (.iload_n 1, 1) := by decide +kernel
theorem dX4_plotOwner_7 : decode cX4_plotOwner 7 = .ok (.invokevirtual 164, 3) := by decide +kernel
theorem dX4_plotOwner_10 : decode cX4_plotOwner 10 = .ok (.ifCond .eq 11, 3) := by decide +kernel
theorem dX4_plotOwner_13 : decode cX4_plotOwner 13 = .ok (.aload_n 0, 1) := by decide +kernel
theorem dX4_plotOwner_14 : decode cX4_plotOwner 14 = .ok (.iload_n 1, 1) := by decide +kernel
theorem dX4_plotOwner_15 : decode cX4_plotOwner 15 = .ok (.invokevirtual 66, 3) := by decide +kernel
theorem dX4_plotOwner_18 : decode cX4_plotOwner 18 = .ok (.goto 8, 3) := by decide +kernel
theorem dX4_plotOwner_21 : decode cX4_plotOwner 21 = .ok (.aload_n 0, 1) := by decide +kernel
theorem dX4_plotOwner_22 : decode cX4_plotOwner 22 = .ok (.iconst 1, 1) := by decide +kernel
theorem dX4_plotOwner_23 : decode cX4_plotOwner 23 = .ok (.invokevirtual 89, 3) := by decide +kernel
theorem dX4_plotOwner_26 : decode cX4_plotOwner 26 = .ok (.ireturn, 1) := by decide +kernel
set_option maxRecDepth 20000 in
theorem ggX4_plotX_X4_isPlot : GoodIn wsX4_plotX wsX4_isPlot := goodIn_r _ [7, 8, 9, 10, 6, 11, 12, 13, 14, 15, 16, 2, 17, 18, 19, 20, 21, 22, 23, 24, 25, 26, 27, 28, 33, 34, 35, 36, 37, 38, 39, 40, 41, 42, 43, 44, 45, 46, 47] (by decide +kernel) (by decide +kernel)
set_option maxRecDepth 20000 in
theorem gX4_plotX_X4_isPlot : GoodIn wsX4_plotX (wsV RX4 164 RX4 yX4_isPlot wsX4_isPlot) := goodIn_app (goodIn_of _ (by decide +kernel)) ggX4_plotX_X4_isPlot
set_option maxRecDepth 20000 in
theorem ggX4_plotX_X4_refuses : GoodIn wsX4_plotX wsX4_refuses := goodIn_r _ [32, 1, 33, 34, 35, 36, 37, 38, 39, 40, 41, 42, 43, 44, 45, 46, 47] (by decide +kernel) (by decide +kernel)
set_option maxRecDepth 20000 in
theorem gX4_plotX_X4_refuses : GoodIn wsX4_plotX (wsV RX4 89 RX4 yX4_refuses wsX4_refuses) := goodIn_app (goodIn_of _ (by decide +kernel)) ggX4_plotX_X4_refuses
theorem dX4_plotX_0 : decode cX4_plotX 0 = .ok (.aload_n 0, 1) := by decide +kernel
theorem dX4_plotX_1 : decode cX4_plotX 1 = .ok (.iconst 0, 1) := by decide +kernel
theorem dX4_plotX_2 : decode cX4_plotX 2 = .ok (.putfield 37, 3) := by decide +kernel
theorem dX4_plotX_5 : decode cX4_plotX 5 = .ok (.aload_n 0, 1) := by decide +kernel
theorem dX4_plotX_6 : decode cX4_plotX 6 = .ok (.iload_n 1, 1) := by decide +kernel
theorem dX4_plotX_7 : decode cX4_plotX 7 = .ok (.invokevirtual 164, 3) := by decide +kernel
theorem dX4_plotX_10 : decode cX4_plotX 10 = .ok (.ifCond .eq 15, 3) := by decide +kernel
theorem dX4_plotX_13 : decode cX4_plotX 13 = .ok (.aload_n 0, 1) := by decide +kernel
theorem dX4_plotX_14 : decode cX4_plotX 14 = .ok (.getfield 25, 3) := by decide +kernel
theorem dX4_plotX_17 : decode cX4_plotX 17 = .ok (.iload_n 1, 1) := by decide +kernel
theorem dX4_plotX_18 : decode cX4_plotX 18 = .ok (.iaload, 1) := by decide +kernel
theorem dX4_plotX_19 : decode cX4_plotX 19 = .ok (.bipush 16, 2) := by decide +kernel
theorem dX4_plotX_21 : decode cX4_plotX 21 = .ok (.irem, 1) := by decide +kernel
theorem dX4_plotX_22 : decode cX4_plotX 22 = .ok (.goto 8, 3) := by decide +kernel
theorem dX4_plotX_25 : decode cX4_plotX 25 = .ok (.aload_n 0, 1) := by decide +kernel
theorem dX4_plotX_26 : decode cX4_plotX 26 = .ok (.iconst 1, 1) := by decide +kernel
theorem dX4_plotX_27 : decode cX4_plotX 27 = .ok (.invokevirtual 89, 3) := by decide +kernel
theorem dX4_plotX_30 : decode cX4_plotX 30 = .ok (.ireturn, 1) := by decide +kernel
set_option maxRecDepth 20000 in
theorem ggX4_plotY_X4_isPlot : GoodIn wsX4_plotY wsX4_isPlot := goodIn_r _ [7, 8, 9, 10, 6, 11, 12, 13, 14, 15, 16, 2, 17, 18, 19, 20, 21, 22, 23, 24, 25, 26, 27, 28, 33, 34, 35, 36, 37, 38, 39, 40, 41, 42, 43, 44, 45, 46, 47] (by decide +kernel) (by decide +kernel)
set_option maxRecDepth 20000 in
theorem gX4_plotY_X4_isPlot : GoodIn wsX4_plotY (wsV RX4 164 RX4 yX4_isPlot wsX4_isPlot) := goodIn_app (goodIn_of _ (by decide +kernel)) ggX4_plotY_X4_isPlot
set_option maxRecDepth 20000 in
theorem ggX4_plotY_X4_refuses : GoodIn wsX4_plotY wsX4_refuses := goodIn_r _ [32, 1, 33, 34, 35, 36, 37, 38, 39, 40, 41, 42, 43, 44, 45, 46, 47] (by decide +kernel) (by decide +kernel)
set_option maxRecDepth 20000 in
theorem gX4_plotY_X4_refuses : GoodIn wsX4_plotY (wsV RX4 89 RX4 yX4_refuses wsX4_refuses) := goodIn_app (goodIn_of _ (by decide +kernel)) ggX4_plotY_X4_refuses
theorem dX4_plotY_0 : decode cX4_plotY 0 = .ok (.aload_n 0, 1) := by decide +kernel
theorem dX4_plotY_1 : decode cX4_plotY 1 = .ok (.iconst 0, 1) := by decide +kernel
theorem dX4_plotY_2 : decode cX4_plotY 2 = .ok (.putfield 37, 3) := by decide +kernel
theorem dX4_plotY_5 : decode cX4_plotY 5 = .ok (.aload_n 0, 1) := by decide +kernel
theorem dX4_plotY_6 : decode cX4_plotY 6 = .ok (.iload_n 1, 1) := by decide +kernel
theorem dX4_plotY_7 : decode cX4_plotY 7 = .ok (.invokevirtual 164, 3) := by decide +kernel
theorem dX4_plotY_10 : decode cX4_plotY 10 = .ok (.ifCond .eq 15, 3) := by decide +kernel
theorem dX4_plotY_13 : decode cX4_plotY 13 = .ok (.aload_n 0, 1) := by decide +kernel
theorem dX4_plotY_14 : decode cX4_plotY 14 = .ok (.getfield 25, 3) := by decide +kernel
theorem dX4_plotY_17 : decode cX4_plotY 17 = .ok (.iload_n 1, 1) := by decide +kernel
theorem dX4_plotY_18 : decode cX4_plotY 18 = .ok (.iaload, 1) := by decide +kernel
theorem dX4_plotY_19 : decode cX4_plotY 19 = .ok (.bipush 16, 2) := by decide +kernel
theorem dX4_plotY_21 : decode cX4_plotY 21 = .ok (.idiv, 1) := by decide +kernel
theorem dX4_plotY_22 : decode cX4_plotY 22 = .ok (.goto 8, 3) := by decide +kernel
theorem dX4_plotY_25 : decode cX4_plotY 25 = .ok (.aload_n 0, 1) := by decide +kernel
theorem dX4_plotY_26 : decode cX4_plotY 26 = .ok (.iconst 1, 1) := by decide +kernel
theorem dX4_plotY_27 : decode cX4_plotY 27 = .ok (.invokevirtual 89, 3) := by decide +kernel
theorem dX4_plotY_30 : decode cX4_plotY 30 = .ok (.ireturn, 1) := by decide +kernel
set_option maxRecDepth 20000 in
theorem ggX4_plotSize_X4_isPlot : GoodIn wsX4_plotSize wsX4_isPlot := goodIn_r _ [7, 8, 9, 10, 6, 11, 12, 13, 14, 15, 16, 17, 2, 18, 19, 20, 21, 22, 23, 24, 25, 26, 27, 28, 33, 34, 35, 36, 37, 38, 39, 40, 41, 42, 43, 44, 45, 46, 47] (by decide +kernel) (by decide +kernel)
set_option maxRecDepth 20000 in
theorem gX4_plotSize_X4_isPlot : GoodIn wsX4_plotSize (wsV RX4 164 RX4 yX4_isPlot wsX4_isPlot) := goodIn_app (goodIn_of _ (by decide +kernel)) ggX4_plotSize_X4_isPlot
set_option maxRecDepth 20000 in
theorem ggX4_plotSize_X4_refuses : GoodIn wsX4_plotSize wsX4_refuses := goodIn_r _ [32, 1, 33, 34, 35, 36, 37, 38, 39, 40, 41, 42, 43, 44, 45, 46, 47] (by decide +kernel) (by decide +kernel)
set_option maxRecDepth 20000 in
theorem gX4_plotSize_X4_refuses : GoodIn wsX4_plotSize (wsV RX4 89 RX4 yX4_refuses wsX4_refuses) := goodIn_app (goodIn_of _ (by decide +kernel)) ggX4_plotSize_X4_refuses
theorem dX4_plotSize_0 : decode cX4_plotSize 0 = .ok (.aload_n 0, 1) := by decide +kernel
theorem dX4_plotSize_1 : decode cX4_plotSize 1 = .ok (.iconst 0, 1) := by decide +kernel
theorem dX4_plotSize_2 : decode cX4_plotSize 2 = .ok (.putfield 37, 3) := by decide +kernel
theorem dX4_plotSize_5 : decode cX4_plotSize 5 = .ok (.aload_n 0, 1) := by decide +kernel
theorem dX4_plotSize_6 : decode cX4_plotSize 6 = .ok (.iload_n 1, 1) := by decide +kernel
theorem dX4_plotSize_7 : decode cX4_plotSize 7 = .ok (.invokevirtual 164, 3) := by decide +kernel
theorem dX4_plotSize_10 : decode cX4_plotSize 10 = .ok (.ifCond .eq 12, 3) := by decide +kernel
theorem dX4_plotSize_13 : decode cX4_plotSize 13 = .ok (.aload_n 0, 1) := by decide +kernel
theorem dX4_plotSize_14 : decode cX4_plotSize 14 = .ok (.getfield 28, 3) := by decide +kernel
theorem dX4_plotSize_17 : decode cX4_plotSize 17 = .ok (.iload_n 1, 1) := by decide +kernel
theorem dX4_plotSize_18 : decode cX4_plotSize 18 = .ok (.iaload, 1) := by decide +kernel
theorem dX4_plotSize_19 : decode cX4_plotSize 19 = .ok (.goto 8, 3) := by decide +kernel
theorem dX4_plotSize_22 : decode cX4_plotSize 22 = .ok (.aload_n 0, 1) := by decide +kernel
theorem dX4_plotSize_23 : decode cX4_plotSize 23 = .ok (.iconst 1, 1) := by decide +kernel
theorem dX4_plotSize_24 : decode cX4_plotSize 24 = .ok (.invokevirtual 89, 3) := by decide +kernel
theorem dX4_plotSize_27 : decode cX4_plotSize 27 = .ok (.ireturn, 1) := by decide +kernel
set_option maxRecDepth 20000 in
theorem ggX4_plotsOf_X4_isOwner : GoodIn wsX4_plotsOf wsX4_isOwner := goodIn_r _ [5, 6, 7, 4, 8] (by decide +kernel) (by decide +kernel)
set_option maxRecDepth 20000 in
theorem gX4_plotsOf_X4_isOwner : GoodIn wsX4_plotsOf (va_wsS RX4 85 yX4_isOwner wsX4_isOwner) := goodIn_app (goodIn_of _ (by decide +kernel)) ggX4_plotsOf_X4_isOwner
set_option maxRecDepth 20000 in
theorem ggX4_plotsOf_X4_plotsFor : GoodIn wsX4_plotsOf wsX4_plotsFor := goodIn_r _ [12, 13, 14, 15, 16, 4, 17, 18, 19, 20, 21, 22, 23, 24, 25, 26, 27, 28, 29, 30, 31, 36, 37, 38, 39, 40, 41, 42, 43, 44, 45, 46, 47, 48, 49, 50] (by decide +kernel) (by decide +kernel)
set_option maxRecDepth 20000 in
theorem gX4_plotsOf_X4_plotsFor : GoodIn wsX4_plotsOf (wsV RX4 73 RX4 yX4_plotsFor wsX4_plotsFor) := goodIn_app (goodIn_of _ (by decide +kernel)) ggX4_plotsOf_X4_plotsFor
set_option maxRecDepth 20000 in
theorem ggX4_plotsOf_X4_refuses : GoodIn wsX4_plotsOf wsX4_refuses := goodIn_r _ [35, 1, 36, 37, 38, 39, 40, 41, 42, 43, 44, 45, 46, 47, 48, 49, 50] (by decide +kernel) (by decide +kernel)
set_option maxRecDepth 20000 in
theorem gX4_plotsOf_X4_refuses : GoodIn wsX4_plotsOf (wsV RX4 89 RX4 yX4_refuses wsX4_refuses) := goodIn_app (goodIn_of _ (by decide +kernel)) ggX4_plotsOf_X4_refuses
theorem dX4_plotsOf_0 : decode cX4_plotsOf 0 = .ok (.aload_n 0, 1) := by decide +kernel
theorem dX4_plotsOf_1 : decode cX4_plotsOf 1 = .ok (.iconst 0, 1) := by decide +kernel
theorem dX4_plotsOf_2 : decode cX4_plotsOf 2 = .ok (.putfield 37, 3) := by decide +kernel
theorem dX4_plotsOf_5 : decode cX4_plotsOf 5 = .ok (.iload_n 1, 1) := by decide +kernel
theorem dX4_plotsOf_6 : decode cX4_plotsOf 6 = .ok (.invokestatic 85, 3) := by decide +kernel
theorem dX4_plotsOf_9 : decode cX4_plotsOf 9 = .ok (.ifCond .eq 11, 3) := by decide +kernel
theorem dX4_plotsOf_12 : decode cX4_plotsOf 12 = .ok (.aload_n 0, 1) := by decide +kernel
theorem dX4_plotsOf_13 : decode cX4_plotsOf 13 = .ok (.iload_n 1, 1) := by decide +kernel
theorem dX4_plotsOf_14 : decode cX4_plotsOf 14 = .ok (.invokevirtual 73, 3) := by decide +kernel
theorem dX4_plotsOf_17 : decode cX4_plotsOf 17 = .ok (.goto 8, 3) := by decide +kernel
theorem dX4_plotsOf_20 : decode cX4_plotsOf 20 = .ok (.aload_n 0, 1) := by decide +kernel
theorem dX4_plotsOf_21 : decode cX4_plotsOf 21 = .ok (.iconst 1, 1) := by decide +kernel
theorem dX4_plotsOf_22 : decode cX4_plotsOf 22 = .ok (.invokevirtual 89, 3) := by decide +kernel
theorem dX4_plotsOf_25 : decode cX4_plotsOf 25 = .ok (.ireturn, 1) := by decide +kernel
theorem dX4_area_0 : decode cX4_area 0 = .ok (.iconst 0, 1) := by decide +kernel
theorem dX4_area_1 : decode cX4_area 1 = .ok (.istore_n 2, 1) := by decide +kernel
theorem dX4_area_2 : decode cX4_area 2 = .ok (.iconst 0, 1) := by decide +kernel
theorem dX4_area_3 : decode cX4_area 3 = .ok (.istore_n 3, 1) := by decide +kernel
theorem dX4_area_4 : decode cX4_area 4 = .ok (.iload_n 3, 1) := by decide +kernel
theorem dX4_area_5 : decode cX4_area 5 = .ok (.sipush 256, 3) := by decide +kernel
theorem dX4_area_8 : decode cX4_area 8 = .ok (.if_icmp .ge 27, 3) := by decide +kernel
theorem dX4_area_11 : decode cX4_area 11 = .ok (.iload_n 2, 1) := by decide +kernel
theorem dX4_area_12 : decode cX4_area 12 = .ok (.aload_n 0, 1) := by decide +kernel
theorem dX4_area_13 : decode cX4_area 13 = .ok (.getfield 7, 3) := by decide +kernel
theorem dX4_area_16 : decode cX4_area 16 = .ok (.iload_n 3, 1) := by decide +kernel
theorem dX4_area_17 : decode cX4_area 17 = .ok (.iaload, 1) := by decide +kernel
theorem dX4_area_18 : decode cX4_area 18 = .ok (.iload_n 1, 1) := by decide +kernel
theorem dX4_area_19 : decode cX4_area 19 = .ok (.if_icmp .ne 7, 3) := by decide +kernel
theorem dX4_area_22 : decode cX4_area 22 = .ok (.iconst 1, 1) := by decide +kernel
theorem dX4_area_23 : decode cX4_area 23 = .ok (.goto 4, 3) := by decide +kernel
theorem dX4_area_26 : decode cX4_area 26 = .ok (.iconst 0, 1) := by decide +kernel
theorem dX4_area_27 : decode cX4_area 27 = .ok (.iadd, 1) := by decide +kernel
theorem dX4_area_28 : decode cX4_area 28 = .ok (.istore_n 2, 1) := by decide +kernel
theorem dX4_area_29 : decode cX4_area 29 = .ok (.iinc 3 1, 3) := by decide +kernel
theorem dX4_area_32 : decode cX4_area 32 = .ok (.goto (-28), 3) := by decide +kernel
theorem dX4_area_35 : decode cX4_area 35 = .ok (.iload_n 2, 1) := by decide +kernel
theorem dX4_area_36 : decode cX4_area 36 = .ok (.ireturn, 1) := by decide +kernel
set_option maxRecDepth 20000 in
theorem ggX4_areaByPlots_X4_isOwner : GoodIn wsX4_areaByPlots wsX4_isOwner := goodIn_r _ [5, 6, 7, 4, 8] (by decide +kernel) (by decide +kernel)
set_option maxRecDepth 20000 in
theorem gX4_areaByPlots_X4_isOwner : GoodIn wsX4_areaByPlots (va_wsS RX4 85 yX4_isOwner wsX4_isOwner) := goodIn_app (goodIn_of _ (by decide +kernel)) ggX4_areaByPlots_X4_isOwner
set_option maxRecDepth 20000 in
theorem ggX4_areaByPlots_X4_area : GoodIn wsX4_areaByPlots wsX4_area := goodIn_r _ [12, 13, 18, 19, 20, 21, 22, 23, 24, 25, 26, 27, 28, 29, 30, 31, 32] (by decide +kernel) (by decide +kernel)
set_option maxRecDepth 20000 in
theorem gX4_areaByPlots_X4_area : GoodIn wsX4_areaByPlots (wsV RX4 167 RX4 yX4_area wsX4_area) := goodIn_app (goodIn_of _ (by decide +kernel)) ggX4_areaByPlots_X4_area
set_option maxRecDepth 20000 in
theorem ggX4_areaByPlots_X4_refuses : GoodIn wsX4_areaByPlots wsX4_refuses := goodIn_r _ [17, 1, 18, 19, 20, 21, 22, 23, 24, 25, 26, 27, 28, 29, 30, 31, 32] (by decide +kernel) (by decide +kernel)
set_option maxRecDepth 20000 in
theorem gX4_areaByPlots_X4_refuses : GoodIn wsX4_areaByPlots (wsV RX4 89 RX4 yX4_refuses wsX4_refuses) := goodIn_app (goodIn_of _ (by decide +kernel)) ggX4_areaByPlots_X4_refuses
theorem dX4_areaByPlots_0 : decode cX4_areaByPlots 0 = .ok (.aload_n 0, 1) := by decide +kernel
theorem dX4_areaByPlots_1 : decode cX4_areaByPlots 1 = .ok (.iconst 0, 1) := by decide +kernel
theorem dX4_areaByPlots_2 : decode cX4_areaByPlots 2 = .ok (.putfield 37, 3) := by decide +kernel
theorem dX4_areaByPlots_5 : decode cX4_areaByPlots 5 = .ok (.iload_n 1, 1) := by decide +kernel
theorem dX4_areaByPlots_6 : decode cX4_areaByPlots 6 = .ok (.invokestatic 85, 3) := by decide +kernel
theorem dX4_areaByPlots_9 : decode cX4_areaByPlots 9 = .ok (.ifCond .eq 11, 3) := by decide +kernel
theorem dX4_areaByPlots_12 : decode cX4_areaByPlots 12 = .ok (.aload_n 0, 1) := by decide +kernel
theorem dX4_areaByPlots_13 : decode cX4_areaByPlots 13 = .ok (.iload_n 1, 1) := by decide +kernel
theorem dX4_areaByPlots_14 : decode cX4_areaByPlots 14 = .ok (.invokevirtual 167, 3) := by decide +kernel
theorem dX4_areaByPlots_17 : decode cX4_areaByPlots 17 = .ok (.goto 8, 3) := by decide +kernel
theorem dX4_areaByPlots_20 : decode cX4_areaByPlots 20 = .ok (.aload_n 0, 1) := by decide +kernel
theorem dX4_areaByPlots_21 : decode cX4_areaByPlots 21 = .ok (.iconst 1, 1) := by decide +kernel
theorem dX4_areaByPlots_22 : decode cX4_areaByPlots 22 = .ok (.invokevirtual 89, 3) := by decide +kernel
theorem dX4_areaByPlots_25 : decode cX4_areaByPlots 25 = .ok (.ireturn, 1) := by decide +kernel
set_option maxRecDepth 20000 in
theorem ggX4_areaByCells_X4_isOwner : GoodIn wsX4_areaByCells wsX4_isOwner := goodIn_r _ [5, 6, 7, 4, 8] (by decide +kernel) (by decide +kernel)
set_option maxRecDepth 20000 in
theorem gX4_areaByCells_X4_isOwner : GoodIn wsX4_areaByCells (va_wsS RX4 85 yX4_isOwner wsX4_isOwner) := goodIn_app (goodIn_of _ (by decide +kernel)) ggX4_areaByCells_X4_isOwner
set_option maxRecDepth 20000 in
theorem ggX4_areaByCells_X4_area : GoodIn wsX4_areaByCells wsX4_area := goodIn_r _ [12, 13, 18, 19, 20, 21, 22, 23, 24, 25, 26, 27, 28, 29, 30, 31, 32] (by decide +kernel) (by decide +kernel)
set_option maxRecDepth 20000 in
theorem gX4_areaByCells_X4_area : GoodIn wsX4_areaByCells (wsV RX4 167 RX4 yX4_area wsX4_area) := goodIn_app (goodIn_of _ (by decide +kernel)) ggX4_areaByCells_X4_area
set_option maxRecDepth 20000 in
theorem ggX4_areaByCells_X4_refuses : GoodIn wsX4_areaByCells wsX4_refuses := goodIn_r _ [17, 1, 18, 19, 20, 21, 22, 23, 24, 25, 26, 27, 28, 29, 30, 31, 32] (by decide +kernel) (by decide +kernel)
set_option maxRecDepth 20000 in
theorem gX4_areaByCells_X4_refuses : GoodIn wsX4_areaByCells (wsV RX4 89 RX4 yX4_refuses wsX4_refuses) := goodIn_app (goodIn_of _ (by decide +kernel)) ggX4_areaByCells_X4_refuses
theorem dX4_areaByCells_0 : decode cX4_areaByCells 0 = .ok (.aload_n 0, 1) := by decide +kernel
theorem dX4_areaByCells_1 : decode cX4_areaByCells 1 = .ok (.iconst 0, 1) := by decide +kernel
theorem dX4_areaByCells_2 : decode cX4_areaByCells 2 = .ok (.putfield 37, 3) := by decide +kernel
theorem dX4_areaByCells_5 : decode cX4_areaByCells 5 = .ok (.iload_n 1, 1) := by decide +kernel
theorem dX4_areaByCells_6 : decode cX4_areaByCells 6 = .ok (.invokestatic 85, 3) := by decide +kernel
theorem dX4_areaByCells_9 : decode cX4_areaByCells 9 = .ok (.ifCond .eq 11, 3) := by decide +kernel
theorem dX4_areaByCells_12 : decode cX4_areaByCells 12 = .ok (.aload_n 0, 1) := by decide +kernel
theorem dX4_areaByCells_13 : decode cX4_areaByCells 13 = .ok (.iload_n 1, 1) := by decide +kernel
theorem dX4_areaByCells_14 : decode cX4_areaByCells 14 = .ok (.invokevirtual 167, 3) := by decide +kernel
theorem dX4_areaByCells_17 : decode cX4_areaByCells 17 = .ok (.goto 8, 3) := by decide +kernel
theorem dX4_areaByCells_20 : decode cX4_areaByCells 20 = .ok (.aload_n 0, 1) := by decide +kernel
theorem dX4_areaByCells_21 : decode cX4_areaByCells 21 = .ok (.iconst 1, 1) := by decide +kernel
theorem dX4_areaByCells_22 : decode cX4_areaByCells 22 = .ok (.invokevirtual 89, 3) := by decide +kernel
theorem dX4_areaByCells_25 : decode cX4_areaByCells 25 = .ok (.ireturn, 1) := by decide +kernel
theorem dX4_between_0 : decode cX4_between 0 = .ok (.iconst 0, 1) := by decide +kernel
theorem dX4_between_1 : decode cX4_between 1 = .ok (.istore_n 3, 1) := by decide +kernel
theorem dX4_between_2 : decode cX4_between 2 = .ok (.iconst 0, 1) := by decide +kernel
theorem dX4_between_3 : decode cX4_between 3 = .ok (.istore 4, 2) := by decide +kernel
theorem dX4_between_5 : decode cX4_between 5 = .ok (.iload 4, 2) := by decide +kernel
theorem dX4_between_7 : decode cX4_between 7 = .ok (.sipush 256, 3) := by decide +kernel
theorem dX4_between_10 : decode cX4_between 10 = .ok (.if_icmp .ge 165, 3) := by decide +kernel
theorem dX4_between_13 : decode cX4_between 13 = .ok (.iload 4, 2) := by decide +kernel
theorem dX4_between_15 : decode cX4_between 15 = .ok (.bipush 16, 2) := by decide +kernel
theorem dX4_between_17 : decode cX4_between 17 = .ok (.irem, 1) := by decide +kernel
theorem dX4_between_18 : decode cX4_between 18 = .ok (.bipush 15, 2) := by decide +kernel
theorem dX4_between_20 : decode cX4_between 20 = .ok (.if_icmp .ge 7, 3) := by decide +kernel
theorem dX4_between_23 : decode cX4_between 23 = .ok (.iconst 1, 1) := by decide +kernel
theorem dX4_between_24 : decode cX4_between 24 = .ok (.goto 4, 3) := by decide +kernel
theorem dX4_between_27 : decode cX4_between 27 = .ok (.iconst 0, 1) := by decide +kernel
theorem dX4_between_28 : decode cX4_between 28 = .ok (.istore 5, 2) := by decide +kernel
theorem dX4_between_30 : decode cX4_between 30 = .ok (.iload 4, 2) := by decide +kernel
theorem dX4_between_32 : decode cX4_between 32 = .ok (.sipush 240, 3) := by decide +kernel
theorem dX4_between_35 : decode cX4_between 35 = .ok (.if_icmp .ge 7, 3) := by decide +kernel
theorem dX4_between_38 : decode cX4_between 38 = .ok (.iconst 1, 1) := by decide +kernel
theorem dX4_between_39 : decode cX4_between 39 = .ok (.goto 4, 3) := by decide +kernel
theorem dX4_between_42 : decode cX4_between 42 = .ok (.iconst 0, 1) := by decide +kernel
theorem dX4_between_43 : decode cX4_between 43 = .ok (.istore 6, 2) := by decide +kernel
theorem dX4_between_45 : decode cX4_between 45 = .ok (.iload_n 3, 1) := by decide +kernel
theorem dX4_between_46 : decode cX4_between 46 = .ok (.iload 5, 2) := by decide +kernel
theorem dX4_between_48 : decode cX4_between 48 = .ok (.ifCond .eq 55, 3) := by decide +kernel
theorem dX4_between_51 : decode cX4_between 51 = .ok (.aload_n 0, 1) := by decide +kernel
theorem dX4_between_52 : decode cX4_between 52 = .ok (.getfield 7, 3) := by decide +kernel
theorem dX4_between_55 : decode cX4_between 55 = .ok (.iload 4, 2) := by decide +kernel
theorem dX4_between_57 : decode cX4_between 57 = .ok (.iaload, 1) := by decide +kernel
theorem dX4_between_58 : decode cX4_between 58 = .ok (.iload_n 1, 1) := by decide +kernel
theorem dX4_between_59 : decode cX4_between 59 = .ok (.if_icmp .ne 16, 3) := by decide +kernel
theorem dX4_between_62 : decode cX4_between 62 = .ok (.aload_n 0, 1) := by decide +kernel
theorem dX4_between_63 : decode cX4_between 63 = .ok (.getfield 7, 3) := by decide +kernel
theorem dX4_between_66 : decode cX4_between 66 = .ok (.iload 4, 2) := by decide +kernel
theorem dX4_between_68 : decode cX4_between 68 = .ok (.iconst 1, 1) := by decide +kernel
theorem dX4_between_69 : decode cX4_between 69 = .ok (.iadd, 1) := by decide +kernel
theorem dX4_between_70 : decode cX4_between 70 = .ok (.iaload, 1) := by decide +kernel
theorem dX4_between_71 : decode cX4_between 71 = .ok (.iload_n 2, 1) := by decide +kernel
theorem dX4_between_72 : decode cX4_between 72 = .ok (.if_icmp .eq 27, 3) := by decide +kernel
theorem dX4_between_75 : decode cX4_between 75 = .ok (.aload_n 0, 1) := by decide +kernel
theorem dX4_between_76 : decode cX4_between 76 = .ok (.getfield 7, 3) := by decide +kernel
theorem dX4_between_79 : decode cX4_between 79 = .ok (.iload 4, 2) := by decide +kernel
theorem dX4_between_81 : decode cX4_between 81 = .ok (.iaload, 1) := by decide +kernel
theorem dX4_between_82 : decode cX4_between 82 = .ok (.iload_n 2, 1) := by decide +kernel
theorem dX4_between_83 : decode cX4_between 83 = .ok (.if_icmp .ne 20, 3) := by decide +kernel
theorem dX4_between_86 : decode cX4_between 86 = .ok (.aload_n 0, 1) := by decide +kernel
theorem dX4_between_87 : decode cX4_between 87 = .ok (.getfield 7, 3) := by decide +kernel
theorem dX4_between_90 : decode cX4_between 90 = .ok (.iload 4, 2) := by decide +kernel
theorem dX4_between_92 : decode cX4_between 92 = .ok (.iconst 1, 1) := by decide +kernel
theorem dX4_between_93 : decode cX4_between 93 = .ok (.iadd, 1) := by decide +kernel
theorem dX4_between_94 : decode cX4_between 94 = .ok (.iaload, 1) := by decide +kernel
theorem dX4_between_95 : decode cX4_between 95 = .ok (.iload_n 1, 1) := by decide +kernel
theorem dX4_between_96 : decode cX4_between 96 = .ok (.if_icmp .ne 7, 3) := by decide +kernel
theorem dX4_between_99 : decode cX4_between 99 = .ok (.iconst 1, 1) := by decide +kernel
theorem dX4_between_100 : decode cX4_between 100 = .ok (.goto 4, 3) := by decide +kernel
theorem dX4_between_103 : decode cX4_between 103 = .ok (.iconst 0, 1) := by decide +kernel
theorem dX4_between_104 : decode cX4_between 104 = .ok (.iadd, 1) := by decide +kernel
theorem dX4_between_105 : decode cX4_between 105 = .ok (.istore_n 3, 1) := by decide +kernel
theorem dX4_between_106 : decode cX4_between 106 = .ok (.iload_n 3, 1) := by decide +kernel
theorem dX4_between_107 : decode cX4_between 107 = .ok (.iload 6, 2) := by decide +kernel
theorem dX4_between_109 : decode cX4_between 109 = .ok (.ifCond .eq 57, 3) := by decide +kernel
theorem dX4_between_112 : decode cX4_between 112 = .ok (.aload_n 0, 1) := by decide +kernel
theorem dX4_between_113 : decode cX4_between 113 = .ok (.getfield 7, 3) := by decide +kernel
theorem dX4_between_116 : decode cX4_between 116 = .ok (.iload 4, 2) := by decide +kernel
theorem dX4_between_118 : decode cX4_between 118 = .ok (.iaload, 1) := by decide +kernel
theorem dX4_between_119 : decode cX4_between 119 = .ok (.iload_n 1, 1) := by decide +kernel
theorem dX4_between_120 : decode cX4_between 120 = .ok (.if_icmp .ne 17, 3) := by decide +kernel
theorem dX4_between_123 : decode cX4_between 123 = .ok (.aload_n 0, 1) := by decide +kernel
theorem dX4_between_124 : decode cX4_between 124 = .ok (.getfield 7, 3) := by decide +kernel
theorem dX4_between_127 : decode cX4_between 127 = .ok (.iload 4, 2) := by decide +kernel
theorem dX4_between_129 : decode cX4_between 129 = .ok (.bipush 16, 2) := by decide +kernel
theorem dX4_between_131 : decode cX4_between 131 = .ok (.iadd, 1) := by decide +kernel
theorem dX4_between_132 : decode cX4_between 132 = .ok (.iaload, 1) := by decide +kernel
theorem dX4_between_133 : decode cX4_between 133 = .ok (.iload_n 2, 1) := by decide +kernel
theorem dX4_between_134 : decode cX4_between 134 = .ok (.if_icmp .eq 28, 3) := by decide +kernel
theorem dX4_between_137 : decode cX4_between 137 = .ok (.aload_n 0, 1) := by decide +kernel
theorem dX4_between_138 : decode cX4_between 138 = .ok (.getfield 7, 3) := by decide +kernel
theorem dX4_between_141 : decode cX4_between 141 = .ok (.iload 4, 2) := by decide +kernel
theorem dX4_between_143 : decode cX4_between 143 = .ok (.iaload, 1) := by decide +kernel
theorem dX4_between_144 : decode cX4_between 144 = .ok (.iload_n 2, 1) := by decide +kernel
theorem dX4_between_145 : decode cX4_between 145 = .ok (.if_icmp .ne 21, 3) := by decide +kernel
theorem dX4_between_148 : decode cX4_between 148 = .ok (.aload_n 0, 1) := by decide +kernel
theorem dX4_between_149 : decode cX4_between 149 = .ok (.getfield 7, 3) := by decide +kernel
theorem dX4_between_152 : decode cX4_between 152 = .ok (.iload 4, 2) := by decide +kernel
theorem dX4_between_154 : decode cX4_between 154 = .ok (.bipush 16, 2) := by decide +kernel
theorem dX4_between_156 : decode cX4_between 156 = .ok (.iadd, 1) := by decide +kernel
theorem dX4_between_157 : decode cX4_between 157 = .ok (.iaload, 1) := by decide +kernel
theorem dX4_between_158 : decode cX4_between 158 = .ok (.iload_n 1, 1) := by decide +kernel
theorem dX4_between_159 : decode cX4_between 159 = .ok (.if_icmp .ne 7, 3) := by decide +kernel
theorem dX4_between_162 : decode cX4_between 162 = .ok (.iconst 1, 1) := by decide +kernel
theorem dX4_between_163 : decode cX4_between 163 = .ok (.goto 4, 3) := by decide +kernel
theorem dX4_between_166 : decode cX4_between 166 = .ok (.iconst 0, 1) := by decide +kernel
theorem dX4_between_167 : decode cX4_between 167 = .ok (.iadd, 1) := by decide +kernel
theorem dX4_between_168 : decode cX4_between 168 = .ok (.istore_n 3, 1) := by decide +kernel
theorem dX4_between_169 : decode cX4_between 169 = .ok (.iinc 4 1, 3) := by decide +kernel
theorem dX4_between_172 : decode cX4_between 172 = .ok (.goto (-167), 3) := by decide +kernel
theorem dX4_between_175 : decode cX4_between 175 = .ok (.iload_n 1, 1) := by decide +kernel
theorem dX4_between_176 : decode cX4_between 176 = .ok (.iload_n 2, 1) := by decide +kernel
theorem dX4_between_177 : decode cX4_between 177 = .ok (.if_icmp .ne 7, 3) := by decide +kernel
theorem dX4_between_180 : decode cX4_between 180 = .ok (.iconst 0, 1) := by decide +kernel
theorem dX4_between_181 : decode cX4_between 181 = .ok (.goto 4, 3) := by decide +kernel
theorem dX4_between_184 : decode cX4_between 184 = .ok (.iload_n 3, 1) := by decide +kernel
theorem dX4_between_185 : decode cX4_between 185 = .ok (.ireturn, 1) := by decide +kernel
set_option maxRecDepth 20000 in
theorem ggX4_fence_X4_between : GoodIn wsX4_fence wsX4_between := goodIn_r _ [5, 6, 7, 8, 9, 10, 11, 12, 13, 14, 15, 16, 17, 18, 19, 20, 21] (by decide +kernel) (by decide +kernel)
set_option maxRecDepth 20000 in
theorem gX4_fence_X4_between : GoodIn wsX4_fence (wsV RX4 170 RX4 yX4_between wsX4_between) := goodIn_app (goodIn_of _ (by decide +kernel)) ggX4_fence_X4_between
theorem dX4_fence_0 : decode cX4_fence 0 = .ok (.iconst 0, 1) := by decide +kernel
theorem dX4_fence_1 : decode cX4_fence 1 = .ok (.istore_n 2, 1) := by decide +kernel
theorem dX4_fence_2 : decode cX4_fence 2 = .ok (.iconst 0, 1) := by decide +kernel
theorem dX4_fence_3 : decode cX4_fence 3 = .ok (.istore_n 3, 1) := by decide +kernel
theorem dX4_fence_4 : decode cX4_fence 4 = .ok (.iload_n 3, 1) := by decide +kernel
theorem dX4_fence_5 : decode cX4_fence 5 = .ok (.bipush 8, 2) := by decide +kernel
theorem dX4_fence_7 : decode cX4_fence 7 = .ok (.if_icmp .ge 18, 3) := by decide +kernel
theorem dX4_fence_10 : decode cX4_fence 10 = .ok (.iload_n 2, 1) := by decide +kernel
theorem dX4_fence_11 : decode cX4_fence 11 = .ok (.aload_n 0, 1) := by decide +kernel
theorem dX4_fence_12 : decode cX4_fence 12 = .ok (.iload_n 1, 1) := by decide +kernel
theorem dX4_fence_13 : decode cX4_fence 13 = .ok (.iload_n 3, 1) := by decide +kernel
theorem dX4_fence_14 : decode cX4_fence 14 = .ok (.invokevirtual 170, 3) := by decide +kernel
theorem dX4_fence_17 : decode cX4_fence 17 = .ok (.iadd, 1) := by decide +kernel
theorem dX4_fence_18 : decode cX4_fence 18 = .ok (.istore_n 2, 1) := by decide +kernel
theorem dX4_fence_19 : decode cX4_fence 19 = .ok (.iinc 3 1, 3) := by decide +kernel
theorem dX4_fence_22 : decode cX4_fence 22 = .ok (.goto (-18), 3) := by decide +kernel
theorem dX4_fence_25 : decode cX4_fence 25 = .ok (.iload_n 2, 1) := by decide +kernel
theorem dX4_fence_26 : decode cX4_fence 26 = .ok (.ireturn, 1) := by decide +kernel
set_option maxRecDepth 20000 in
theorem ggX4_fenceByPlots_X4_isOwner : GoodIn wsX4_fenceByPlots wsX4_isOwner := goodIn_r _ [5, 6, 7, 4, 8] (by decide +kernel) (by decide +kernel)
set_option maxRecDepth 20000 in
theorem gX4_fenceByPlots_X4_isOwner : GoodIn wsX4_fenceByPlots (va_wsS RX4 85 yX4_isOwner wsX4_isOwner) := goodIn_app (goodIn_of _ (by decide +kernel)) ggX4_fenceByPlots_X4_isOwner
set_option maxRecDepth 20000 in
theorem ggX4_fenceByPlots_X4_fence : GoodIn wsX4_fenceByPlots wsX4_fence := goodIn_r _ [12, 13, 14, 15, 4, 16, 17, 22, 23, 24, 25, 26, 27, 28, 29, 30, 31, 32, 33, 34, 35, 36] (by decide +kernel) (by decide +kernel)
set_option maxRecDepth 20000 in
theorem gX4_fenceByPlots_X4_fence : GoodIn wsX4_fenceByPlots (wsV RX4 173 RX4 yX4_fence wsX4_fence) := goodIn_app (goodIn_of _ (by decide +kernel)) ggX4_fenceByPlots_X4_fence
set_option maxRecDepth 20000 in
theorem ggX4_fenceByPlots_X4_refuses : GoodIn wsX4_fenceByPlots wsX4_refuses := goodIn_r _ [21, 1, 22, 23, 24, 25, 26, 27, 28, 29, 30, 31, 32, 33, 34, 35, 36] (by decide +kernel) (by decide +kernel)
set_option maxRecDepth 20000 in
theorem gX4_fenceByPlots_X4_refuses : GoodIn wsX4_fenceByPlots (wsV RX4 89 RX4 yX4_refuses wsX4_refuses) := goodIn_app (goodIn_of _ (by decide +kernel)) ggX4_fenceByPlots_X4_refuses
theorem dX4_fenceByPlots_0 : decode cX4_fenceByPlots 0 = .ok (.aload_n 0, 1) := by decide +kernel
theorem dX4_fenceByPlots_1 : decode cX4_fenceByPlots 1 = .ok (.iconst 0, 1) := by decide +kernel
theorem dX4_fenceByPlots_2 : decode cX4_fenceByPlots 2 = .ok (.putfield 37, 3) := by decide +kernel
theorem dX4_fenceByPlots_5 : decode cX4_fenceByPlots 5 = .ok (.iload_n 1, 1) := by decide +kernel
theorem dX4_fenceByPlots_6 : decode cX4_fenceByPlots 6 = .ok (.invokestatic 85, 3) := by decide +kernel
theorem dX4_fenceByPlots_9 : decode cX4_fenceByPlots 9 = .ok (.ifCond .eq 11, 3) := by decide +kernel
theorem dX4_fenceByPlots_12 : decode cX4_fenceByPlots 12 = .ok (.aload_n 0, 1) := by decide +kernel
theorem dX4_fenceByPlots_13 : decode cX4_fenceByPlots 13 = .ok (.iload_n 1, 1) := by decide +kernel
theorem dX4_fenceByPlots_14 : decode cX4_fenceByPlots 14 = .ok (.invokevirtual 173, 3) := by decide +kernel
theorem dX4_fenceByPlots_17 : decode cX4_fenceByPlots 17 = .ok (.goto 8, 3) := by decide +kernel
theorem dX4_fenceByPlots_20 : decode cX4_fenceByPlots 20 = .ok (.aload_n 0, 1) := by decide +kernel
theorem dX4_fenceByPlots_21 : decode cX4_fenceByPlots 21 = .ok (.iconst 1, 1) := by decide +kernel
theorem dX4_fenceByPlots_22 : decode cX4_fenceByPlots 22 = .ok (.invokevirtual 89, 3) := by decide +kernel
theorem dX4_fenceByPlots_25 : decode cX4_fenceByPlots 25 = .ok (.ireturn, 1) := by decide +kernel
set_option maxRecDepth 20000 in
theorem ggX4_fenceByCells_X4_isOwner : GoodIn wsX4_fenceByCells wsX4_isOwner := goodIn_r _ [5, 6, 7, 4, 8] (by decide +kernel) (by decide +kernel)
set_option maxRecDepth 20000 in
theorem gX4_fenceByCells_X4_isOwner : GoodIn wsX4_fenceByCells (va_wsS RX4 85 yX4_isOwner wsX4_isOwner) := goodIn_app (goodIn_of _ (by decide +kernel)) ggX4_fenceByCells_X4_isOwner
set_option maxRecDepth 20000 in
theorem ggX4_fenceByCells_X4_fence : GoodIn wsX4_fenceByCells wsX4_fence := goodIn_r _ [12, 13, 14, 15, 4, 16, 17, 22, 23, 24, 25, 26, 27, 28, 29, 30, 31, 32, 33, 34, 35, 36] (by decide +kernel) (by decide +kernel)
set_option maxRecDepth 20000 in
theorem gX4_fenceByCells_X4_fence : GoodIn wsX4_fenceByCells (wsV RX4 173 RX4 yX4_fence wsX4_fence) := goodIn_app (goodIn_of _ (by decide +kernel)) ggX4_fenceByCells_X4_fence
set_option maxRecDepth 20000 in
theorem ggX4_fenceByCells_X4_refuses : GoodIn wsX4_fenceByCells wsX4_refuses := goodIn_r _ [21, 1, 22, 23, 24, 25, 26, 27, 28, 29, 30, 31, 32, 33, 34, 35, 36] (by decide +kernel) (by decide +kernel)
set_option maxRecDepth 20000 in
theorem gX4_fenceByCells_X4_refuses : GoodIn wsX4_fenceByCells (wsV RX4 89 RX4 yX4_refuses wsX4_refuses) := goodIn_app (goodIn_of _ (by decide +kernel)) ggX4_fenceByCells_X4_refuses
theorem dX4_fenceByCells_0 : decode cX4_fenceByCells 0 = .ok (.aload_n 0, 1) := by decide +kernel
theorem dX4_fenceByCells_1 : decode cX4_fenceByCells 1 = .ok (.iconst 0, 1) := by decide +kernel
theorem dX4_fenceByCells_2 : decode cX4_fenceByCells 2 = .ok (.putfield 37, 3) := by decide +kernel
theorem dX4_fenceByCells_5 : decode cX4_fenceByCells 5 = .ok (.iload_n 1, 1) := by decide +kernel
theorem dX4_fenceByCells_6 : decode cX4_fenceByCells 6 = .ok (.invokestatic 85, 3) := by decide +kernel
theorem dX4_fenceByCells_9 : decode cX4_fenceByCells 9 = .ok (.ifCond .eq 11, 3) := by decide +kernel
theorem dX4_fenceByCells_12 : decode cX4_fenceByCells 12 = .ok (.aload_n 0, 1) := by decide +kernel
theorem dX4_fenceByCells_13 : decode cX4_fenceByCells 13 = .ok (.iload_n 1, 1) := by decide +kernel
theorem dX4_fenceByCells_14 : decode cX4_fenceByCells 14 = .ok (.invokevirtual 173, 3) := by decide +kernel
theorem dX4_fenceByCells_17 : decode cX4_fenceByCells 17 = .ok (.goto 8, 3) := by decide +kernel
theorem dX4_fenceByCells_20 : decode cX4_fenceByCells 20 = .ok (.aload_n 0, 1) := by decide +kernel
theorem dX4_fenceByCells_21 : decode cX4_fenceByCells 21 = .ok (.iconst 1, 1) := by decide +kernel
theorem dX4_fenceByCells_22 : decode cX4_fenceByCells 22 = .ok (.invokevirtual 89, 3) := by decide +kernel
theorem dX4_fenceByCells_25 : decode cX4_fenceByCells 25 = .ok (.ireturn, 1) := by decide +kernel
set_option maxRecDepth 20000 in
theorem ggX4_fenceBetween_X4_isOwner : GoodIn wsX4_fenceBetween wsX4_isOwner := goodIn_r _ [5, 6, 7, 4, 8] (by decide +kernel) (by decide +kernel)
set_option maxRecDepth 20000 in
theorem gX4_fenceBetween_X4_isOwner : GoodIn wsX4_fenceBetween (va_wsS RX4 85 yX4_isOwner wsX4_isOwner) := goodIn_app (goodIn_of _ (by decide +kernel)) ggX4_fenceBetween_X4_isOwner
set_option maxRecDepth 20000 in
theorem ggX4_fenceBetween_X4_between : GoodIn wsX4_fenceBetween wsX4_between := goodIn_r _ [12, 13, 18, 19, 20, 21, 22, 23, 24, 25, 26, 27, 28, 29, 30, 31, 32] (by decide +kernel) (by decide +kernel)
set_option maxRecDepth 20000 in
theorem gX4_fenceBetween_X4_between : GoodIn wsX4_fenceBetween (wsV RX4 170 RX4 yX4_between wsX4_between) := goodIn_app (goodIn_of _ (by decide +kernel)) ggX4_fenceBetween_X4_between
set_option maxRecDepth 20000 in
theorem ggX4_fenceBetween_X4_refuses : GoodIn wsX4_fenceBetween wsX4_refuses := goodIn_r _ [17, 1, 18, 19, 20, 21, 22, 23, 24, 25, 26, 27, 28, 29, 30, 31, 32] (by decide +kernel) (by decide +kernel)
set_option maxRecDepth 20000 in
theorem gX4_fenceBetween_X4_refuses : GoodIn wsX4_fenceBetween (wsV RX4 89 RX4 yX4_refuses wsX4_refuses) := goodIn_app (goodIn_of _ (by decide +kernel)) ggX4_fenceBetween_X4_refuses
theorem dX4_fenceBetween_0 : decode cX4_fenceBetween 0 = .ok (.aload_n 0, 1) := by decide +kernel
theorem dX4_fenceBetween_1 : decode cX4_fenceBetween 1 = .ok (.iconst 0, 1) := by decide +kernel
theorem dX4_fenceBetween_2 : decode cX4_fenceBetween 2 = .ok (.putfield 37, 3) := by decide +kernel
theorem dX4_fenceBetween_5 : decode cX4_fenceBetween 5 = .ok (.iload_n 1, 1) := by decide +kernel
theorem dX4_fenceBetween_6 : decode cX4_fenceBetween 6 = .ok (.invokestatic 85, 3) := by decide +kernel
theorem dX4_fenceBetween_9 : decode cX4_fenceBetween 9 = .ok (.ifCond .eq 19, 3) := by decide +kernel
theorem dX4_fenceBetween_12 : decode cX4_fenceBetween 12 = .ok (.iload_n 2, 1) := by decide +kernel
theorem dX4_fenceBetween_13 : decode cX4_fenceBetween 13 = .ok (.invokestatic 85, 3) := by decide +kernel
theorem dX4_fenceBetween_16 : decode cX4_fenceBetween 16 = .ok (.ifCond .eq 12, 3) := by decide +kernel
theorem dX4_fenceBetween_19 : decode cX4_fenceBetween 19 = .ok (.aload_n 0, 1) := by decide +kernel
theorem dX4_fenceBetween_20 : decode cX4_fenceBetween 20 = .ok (.iload_n 1, 1) := by decide +kernel
theorem dX4_fenceBetween_21 : decode cX4_fenceBetween 21 = .ok (.iload_n 2, 1) := by decide +kernel
theorem dX4_fenceBetween_22 : decode cX4_fenceBetween 22 = .ok (.invokevirtual 170, 3) := by decide +kernel
theorem dX4_fenceBetween_25 : decode cX4_fenceBetween 25 = .ok (.goto 8, 3) := by decide +kernel
theorem dX4_fenceBetween_28 : decode cX4_fenceBetween 28 = .ok (.aload_n 0, 1) := by decide +kernel
theorem dX4_fenceBetween_29 : decode cX4_fenceBetween 29 = .ok (.iconst 1, 1) := by decide +kernel
theorem dX4_fenceBetween_30 : decode cX4_fenceBetween 30 = .ok (.invokevirtual 89, 3) := by decide +kernel
theorem dX4_fenceBetween_33 : decode cX4_fenceBetween 33 = .ok (.ireturn, 1) := by decide +kernel
set_option maxRecDepth 20000 in
theorem ggX4_greatestOf_X4_finds : GoodIn wsX4_greatestOf wsX4_finds := goodIn_r _ [7, 1, 8, 2, 9, 10, 6, 11, 12, 13, 14, 15, 16, 21, 22, 23, 24, 25, 26, 27, 28, 29, 30, 31, 32, 33, 34, 35] (by decide +kernel) (by decide +kernel)
set_option maxRecDepth 20000 in
theorem gX4_greatestOf_X4_finds : GoodIn wsX4_greatestOf (wsV RX4 63 RX4 yX4_finds wsX4_finds) := goodIn_app (goodIn_of _ (by decide +kernel)) ggX4_greatestOf_X4_finds
set_option maxRecDepth 20000 in
theorem ggX4_greatestOf_X4_ownerOf : GoodIn wsX4_greatestOf wsX4_ownerOf := goodIn_r _ [20, 16, 8, 21, 22, 23, 24, 25, 26, 27, 28, 29, 30, 31, 32, 33, 34, 35] (by decide +kernel) (by decide +kernel)
set_option maxRecDepth 20000 in
theorem gX4_greatestOf_X4_ownerOf : GoodIn wsX4_greatestOf (wsV RX4 66 RX4 yX4_ownerOf wsX4_ownerOf) := goodIn_app (goodIn_of _ (by decide +kernel)) ggX4_greatestOf_X4_ownerOf
theorem dX4_greatestOf_0 : decode cX4_greatestOf 0 = .ok (.aload_n 0, 1) := by decide +kernel
theorem dX4_greatestOf_1 : decode cX4_greatestOf 1 = .ok (.invokevirtual 63, 3) := by decide +kernel
theorem dX4_greatestOf_4 : decode cX4_greatestOf 4 = .ok (.iconst (-1), 1) := by decide +kernel
theorem dX4_greatestOf_5 : decode cX4_greatestOf 5 = .ok (.istore_n 2, 1) := by decide +kernel
theorem dX4_greatestOf_6 : decode cX4_greatestOf 6 = .ok (.iconst 0, 1) := by decide +kernel
theorem dX4_greatestOf_7 : decode cX4_greatestOf 7 = .ok (.istore_n 3, 1) := by decide +kernel
theorem dX4_greatestOf_8 : decode cX4_greatestOf 8 = .ok (.iload_n 3, 1) := by decide +kernel
theorem dX4_greatestOf_9 : decode cX4_greatestOf 9 = .ok (.aload_n 0, 1) := by decide +kernel
theorem dX4_greatestOf_10 : decode cX4_greatestOf 10 = .ok (.getfield 52, 3) := by decide +kernel
theorem dX4_greatestOf_13 : decode cX4_greatestOf 13 = .ok (.if_icmp .ge 44, 3) := by decide +kernel
theorem dX4_greatestOf_16 : decode cX4_greatestOf 16 = .ok (.aload_n 0, 1) := by decide +kernel
theorem dX4_greatestOf_17 : decode cX4_greatestOf 17 = .ok (.iload_n 3, 1) := by decide +kernel
theorem dX4_greatestOf_18 : decode cX4_greatestOf 18 = .ok (.invokevirtual 66, 3) := by decide +kernel
theorem dX4_greatestOf_21 : decode cX4_greatestOf 21 = .ok (.iload_n 1, 1) := by decide +kernel
theorem dX4_greatestOf_22 : decode cX4_greatestOf 22 = .ok (.if_icmp .ne 27, 3) := by decide +kernel
theorem dX4_greatestOf_25 : decode cX4_greatestOf 25 = .ok (.iload_n 2, 1) := by decide +kernel
theorem dX4_greatestOf_26 : decode cX4_greatestOf 26 = .ok (.iconst (-1), 1) := by decide +kernel
theorem dX4_greatestOf_27 : decode cX4_greatestOf 27 = .ok (.if_icmp .eq 18, 3) := by decide +kernel
theorem dX4_greatestOf_30 : decode cX4_greatestOf 30 = .ok (.aload_n 0, 1) := by decide +kernel
theorem dX4_greatestOf_31 : decode cX4_greatestOf 31 = .ok (.getfield 28, 3) := by decide +kernel
theorem dX4_greatestOf_34 : decode cX4_greatestOf 34 = .ok (.iload_n 3, 1) := by decide +kernel
theorem dX4_greatestOf_35 : decode cX4_greatestOf 35 = .ok (.iaload, 1) := by decide +kernel
theorem dX4_greatestOf_36 : decode cX4_greatestOf 36 = .ok (.aload_n 0, 1) := by decide +kernel
theorem dX4_greatestOf_37 : decode cX4_greatestOf 37 = .ok (.getfield 28, 3) := by decide +kernel
theorem dX4_greatestOf_40 : decode cX4_greatestOf 40 = .ok (.iload_n 2, 1) := by decide +kernel
theorem dX4_greatestOf_41 : decode cX4_greatestOf 41 = .ok (.iaload, 1) := by decide +kernel
theorem dX4_greatestOf_42 : decode cX4_greatestOf 42 = .ok (.if_icmp .le 7, 3) := by decide +kernel
theorem dX4_greatestOf_45 : decode cX4_greatestOf 45 = .ok (.iload_n 3, 1) := by decide +kernel
theorem dX4_greatestOf_46 : decode cX4_greatestOf 46 = .ok (.goto 4, 3) := by decide +kernel
theorem dX4_greatestOf_49 : decode cX4_greatestOf 49 = .ok (.iload_n 2, 1) := by decide +kernel
theorem dX4_greatestOf_50 : decode cX4_greatestOf 50 = .ok (.istore_n 2, 1) := by decide +kernel
theorem dX4_greatestOf_51 : decode cX4_greatestOf 51 = .ok (.iinc 3 1, 3) := by decide +kernel
theorem dX4_greatestOf_54 : decode cX4_greatestOf 54 = .ok (.goto (-46), 3) := by decide +kernel
theorem dX4_greatestOf_57 : decode cX4_greatestOf 57 = .ok (.iload_n 2, 1) := by decide +kernel
theorem dX4_greatestOf_58 : decode cX4_greatestOf 58 = .ok (.ireturn, 1) := by decide +kernel
set_option maxRecDepth 20000 in
theorem ggX4_largestPlotOf_X4_isOwner : GoodIn wsX4_largestPlotOf wsX4_isOwner := goodIn_r _ [5, 6, 7, 4, 8] (by decide +kernel) (by decide +kernel)
set_option maxRecDepth 20000 in
theorem gX4_largestPlotOf_X4_isOwner : GoodIn wsX4_largestPlotOf (va_wsS RX4 85 yX4_isOwner wsX4_isOwner) := goodIn_app (goodIn_of _ (by decide +kernel)) ggX4_largestPlotOf_X4_isOwner
set_option maxRecDepth 20000 in
theorem ggX4_largestPlotOf_X4_greatestOf : GoodIn wsX4_largestPlotOf wsX4_greatestOf := goodIn_r _ [12, 13, 14, 15, 16, 17, 4, 18, 19, 20, 21, 22, 23, 24, 25, 26, 27, 28, 29, 30, 31, 36, 37, 38, 39, 40, 41, 42, 43, 44, 45, 46, 47, 48, 49, 50] (by decide +kernel) (by decide +kernel)
set_option maxRecDepth 20000 in
theorem gX4_largestPlotOf_X4_greatestOf : GoodIn wsX4_largestPlotOf (wsV RX4 176 RX4 yX4_greatestOf wsX4_greatestOf) := goodIn_app (goodIn_of _ (by decide +kernel)) ggX4_largestPlotOf_X4_greatestOf
set_option maxRecDepth 20000 in
theorem ggX4_largestPlotOf_X4_refuses : GoodIn wsX4_largestPlotOf wsX4_refuses := goodIn_r _ [35, 1, 36, 37, 38, 39, 40, 41, 42, 43, 44, 45, 46, 47, 48, 49, 50] (by decide +kernel) (by decide +kernel)
set_option maxRecDepth 20000 in
theorem gX4_largestPlotOf_X4_refuses : GoodIn wsX4_largestPlotOf (wsV RX4 89 RX4 yX4_refuses wsX4_refuses) := goodIn_app (goodIn_of _ (by decide +kernel)) ggX4_largestPlotOf_X4_refuses
theorem dX4_largestPlotOf_0 : decode cX4_largestPlotOf 0 = .ok (.aload_n 0, 1) := by decide +kernel
theorem dX4_largestPlotOf_1 : decode cX4_largestPlotOf 1 = .ok (.iconst 0, 1) := by decide +kernel
theorem dX4_largestPlotOf_2 : decode cX4_largestPlotOf 2 = .ok (.putfield 37, 3) := by decide +kernel
theorem dX4_largestPlotOf_5 : decode cX4_largestPlotOf 5 = .ok (.iload_n 1, 1) := by decide +kernel
theorem dX4_largestPlotOf_6 : decode cX4_largestPlotOf 6 = .ok (.invokestatic 85, 3) := by decide +kernel
theorem dX4_largestPlotOf_9 : decode cX4_largestPlotOf 9 = .ok (.ifCond .eq 11, 3) := by decide +kernel
theorem dX4_largestPlotOf_12 : decode cX4_largestPlotOf 12 = .ok (.aload_n 0, 1) := by decide +kernel
theorem dX4_largestPlotOf_13 : decode cX4_largestPlotOf 13 = .ok (.iload_n 1, 1) := by decide +kernel
theorem dX4_largestPlotOf_14 : decode cX4_largestPlotOf 14 = .ok (.invokevirtual 176, 3) := by decide +kernel
theorem dX4_largestPlotOf_17 : decode cX4_largestPlotOf 17 = .ok (.goto 8, 3) := by decide +kernel
theorem dX4_largestPlotOf_20 : decode cX4_largestPlotOf 20 = .ok (.aload_n 0, 1) := by decide +kernel
theorem dX4_largestPlotOf_21 : decode cX4_largestPlotOf 21 = .ok (.iconst 1, 1) := by decide +kernel
theorem dX4_largestPlotOf_22 : decode cX4_largestPlotOf 22 = .ok (.invokevirtual 89, 3) := by decide +kernel
theorem dX4_largestPlotOf_25 : decode cX4_largestPlotOf 25 = .ok (.ireturn, 1) := by decide +kernel
set_option maxRecDepth 20000 in
theorem ggX4_firstToLose_X4_isPerson : GoodIn wsX4_firstToLose wsX4_isPerson := goodIn_r _ [5, 6, 7, 4, 8] (by decide +kernel) (by decide +kernel)
set_option maxRecDepth 20000 in
theorem gX4_firstToLose_X4_isPerson : GoodIn wsX4_firstToLose (va_wsS RX4 104 yX4_isPerson wsX4_isPerson) := goodIn_app (goodIn_of _ (by decide +kernel)) ggX4_firstToLose_X4_isPerson
set_option maxRecDepth 20000 in
theorem ggX4_firstToLose_X4_leastOf : GoodIn wsX4_firstToLose wsX4_leastOf := goodIn_r _ [12, 13, 14, 15, 16, 17, 4, 18, 19, 20, 21, 22, 23, 24, 25, 26, 27, 28, 29, 30, 31, 36, 37, 38, 39, 40, 41, 42, 43, 44, 45, 46, 47, 48, 49, 50] (by decide +kernel) (by decide +kernel)
set_option maxRecDepth 20000 in
theorem gX4_firstToLose_X4_leastOf : GoodIn wsX4_firstToLose (wsV RX4 76 RX4 yX4_leastOf wsX4_leastOf) := goodIn_app (goodIn_of _ (by decide +kernel)) ggX4_firstToLose_X4_leastOf
set_option maxRecDepth 20000 in
theorem ggX4_firstToLose_X4_refuses : GoodIn wsX4_firstToLose wsX4_refuses := goodIn_r _ [35, 1, 36, 37, 38, 39, 40, 41, 42, 43, 44, 45, 46, 47, 48, 49, 50] (by decide +kernel) (by decide +kernel)
set_option maxRecDepth 20000 in
theorem gX4_firstToLose_X4_refuses : GoodIn wsX4_firstToLose (wsV RX4 89 RX4 yX4_refuses wsX4_refuses) := goodIn_app (goodIn_of _ (by decide +kernel)) ggX4_firstToLose_X4_refuses
theorem dX4_firstToLose_0 : decode cX4_firstToLose 0 = .ok (.aload_n 0, 1) := by decide +kernel
theorem dX4_firstToLose_1 : decode cX4_firstToLose 1 = .ok (.iconst 0, 1) := by decide +kernel
theorem dX4_firstToLose_2 : decode cX4_firstToLose 2 = .ok (.putfield 37, 3) := by decide +kernel
theorem dX4_firstToLose_5 : decode cX4_firstToLose 5 = .ok (.iload_n 1, 1) := by decide +kernel
theorem dX4_firstToLose_6 : decode cX4_firstToLose 6 = .ok (.invokestatic 104, 3) := by decide +kernel
theorem dX4_firstToLose_9 : decode cX4_firstToLose 9 = .ok (.ifCond .eq 11, 3) := by decide +kernel
theorem dX4_firstToLose_12 : decode cX4_firstToLose 12 = .ok (.aload_n 0, 1) := by decide +kernel
theorem dX4_firstToLose_13 : decode cX4_firstToLose 13 = .ok (.iload_n 1, 1) := by decide +kernel
theorem dX4_firstToLose_14 : decode cX4_firstToLose 14 = .ok (.invokevirtual 76, 3) := by decide +kernel
theorem dX4_firstToLose_17 : decode cX4_firstToLose 17 = .ok (.goto 8, 3) := by decide +kernel
theorem dX4_firstToLose_20 : decode cX4_firstToLose 20 = .ok (.aload_n 0, 1) := by decide +kernel
theorem dX4_firstToLose_21 : decode cX4_firstToLose 21 = .ok (.iconst 1, 1) := by decide +kernel
theorem dX4_firstToLose_22 : decode cX4_firstToLose 22 = .ok (.invokevirtual 89, 3) := by decide +kernel
theorem dX4_firstToLose_25 : decode cX4_firstToLose 25 = .ok (.ireturn, 1) := by decide +kernel
set_option maxRecDepth 20000 in
theorem ggX4_coinsOf_X4_isOwner : GoodIn wsX4_coinsOf wsX4_isOwner := goodIn_r _ [6, 7, 8, 5, 9] (by decide +kernel) (by decide +kernel)
set_option maxRecDepth 20000 in
theorem gX4_coinsOf_X4_isOwner : GoodIn wsX4_coinsOf (va_wsS RX4 85 yX4_isOwner wsX4_isOwner) := goodIn_app (goodIn_of _ (by decide +kernel)) ggX4_coinsOf_X4_isOwner
set_option maxRecDepth 20000 in
theorem ggX4_coinsOf_X4_refuses : GoodIn wsX4_coinsOf wsX4_refuses := goodIn_r _ [13, 1, 14, 15, 16, 17, 18, 19, 20, 21, 22, 23, 24, 25, 26, 27, 28] (by decide +kernel) (by decide +kernel)
set_option maxRecDepth 20000 in
theorem gX4_coinsOf_X4_refuses : GoodIn wsX4_coinsOf (wsV RX4 89 RX4 yX4_refuses wsX4_refuses) := goodIn_app (goodIn_of _ (by decide +kernel)) ggX4_coinsOf_X4_refuses
theorem dX4_coinsOf_0 : decode cX4_coinsOf 0 = .ok (.aload_n 0, 1) := by decide +kernel
theorem dX4_coinsOf_1 : decode cX4_coinsOf 1 = .ok (.iconst 0, 1) := by decide +kernel
theorem dX4_coinsOf_2 : decode cX4_coinsOf 2 = .ok (.putfield 37, 3) := by decide +kernel
theorem dX4_coinsOf_5 : decode cX4_coinsOf 5 = .ok (.iload_n 1, 1) := by decide +kernel
theorem dX4_coinsOf_6 : decode cX4_coinsOf 6 = .ok (.invokestatic 85, 3) := by decide +kernel
theorem dX4_coinsOf_9 : decode cX4_coinsOf 9 = .ok (.ifCond .eq 16, 3) := by decide +kernel
theorem dX4_coinsOf_12 : decode cX4_coinsOf 12 = .ok (.aload_n 0, 1) := by decide +kernel
theorem dX4_coinsOf_13 : decode cX4_coinsOf 13 = .ok (.getfield 7, 3) := by decide +kernel
theorem dX4_coinsOf_16 : decode cX4_coinsOf 16 = .ok (.sipush 512, 3) := by decide +kernel
theorem dX4_coinsOf_19 : decode cX4_coinsOf 19 = .ok (.iload_n 1, 1) := by decide +kernel
theorem dX4_coinsOf_20 : decode cX4_coinsOf 20 = .ok (.iadd, 1) := by decide +kernel
theorem dX4_coinsOf_21 : decode cX4_coinsOf 21 = .ok (.iaload, 1) := by decide +kernel
theorem dX4_coinsOf_22 : decode cX4_coinsOf 22 = .ok (.goto 8, 3) := by decide +kernel
theorem dX4_coinsOf_25 : decode cX4_coinsOf 25 = .ok (.aload_n 0, 1) := by decide +kernel
theorem dX4_coinsOf_26 : decode cX4_coinsOf 26 = .ok (.iconst 1, 1) := by decide +kernel
theorem dX4_coinsOf_27 : decode cX4_coinsOf 27 = .ok (.invokevirtual 89, 3) := by decide +kernel
theorem dX4_coinsOf_30 : decode cX4_coinsOf 30 = .ok (.ireturn, 1) := by decide +kernel
theorem dX4_price_0 : decode cX4_price 0 = .ok (.aload_n 0, 1) := by decide +kernel
theorem dX4_price_1 : decode cX4_price 1 = .ok (.iconst 0, 1) := by decide +kernel
theorem dX4_price_2 : decode cX4_price 2 = .ok (.putfield 37, 3) := by decide +kernel
theorem dX4_price_5 : decode cX4_price 5 = .ok (.aload_n 0, 1) := by decide +kernel
theorem dX4_price_6 : decode cX4_price 6 = .ok (.getfield 7, 3) := by decide +kernel
theorem dX4_price_9 : decode cX4_price 9 = .ok (.sipush 520, 3) := by decide +kernel
theorem dX4_price_12 : decode cX4_price 12 = .ok (.iaload, 1) := by decide +kernel
theorem dX4_price_13 : decode cX4_price 13 = .ok (.ireturn, 1) := by decide +kernel
theorem dX4_tax_0 : decode cX4_tax 0 = .ok (.aload_n 0, 1) := by decide +kernel
theorem dX4_tax_1 : decode cX4_tax 1 = .ok (.iconst 0, 1) := by decide +kernel
theorem dX4_tax_2 : decode cX4_tax 2 = .ok (.putfield 37, 3) := by decide +kernel
theorem dX4_tax_5 : decode cX4_tax 5 = .ok (.aload_n 0, 1) := by decide +kernel
theorem dX4_tax_6 : decode cX4_tax 6 = .ok (.getfield 7, 3) := by decide +kernel
theorem dX4_tax_9 : decode cX4_tax 9 = .ok (.sipush 521, 3) := by decide +kernel
theorem dX4_tax_12 : decode cX4_tax 12 = .ok (.iaload, 1) := by decide +kernel
theorem dX4_tax_13 : decode cX4_tax 13 = .ok (.ireturn, 1) := by decide +kernel
theorem dX4_sales_0 : decode cX4_sales 0 = .ok (.aload_n 0, 1) := by decide +kernel
theorem dX4_sales_1 : decode cX4_sales 1 = .ok (.iconst 0, 1) := by decide +kernel
theorem dX4_sales_2 : decode cX4_sales 2 = .ok (.putfield 37, 3) := by decide +kernel
theorem dX4_sales_5 : decode cX4_sales 5 = .ok (.aload_n 0, 1) := by decide +kernel
theorem dX4_sales_6 : decode cX4_sales 6 = .ok (.getfield 7, 3) := by decide +kernel
theorem dX4_sales_9 : decode cX4_sales 9 = .ok (.sipush 522, 3) := by decide +kernel
theorem dX4_sales_12 : decode cX4_sales 12 = .ok (.iaload, 1) := by decide +kernel
theorem dX4_sales_13 : decode cX4_sales 13 = .ok (.ireturn, 1) := by decide +kernel
theorem dX4_floods_0 : decode cX4_floods 0 = .ok (.aload_n 0, 1) := by decide +kernel
theorem dX4_floods_1 : decode cX4_floods 1 = .ok (.iconst 0, 1) := by decide +kernel
theorem dX4_floods_2 : decode cX4_floods 2 = .ok (.putfield 37, 3) := by decide +kernel
theorem dX4_floods_5 : decode cX4_floods 5 = .ok (.aload_n 0, 1) := by decide +kernel
theorem dX4_floods_6 : decode cX4_floods 6 = .ok (.getfield 7, 3) := by decide +kernel
theorem dX4_floods_9 : decode cX4_floods 9 = .ok (.sipush 523, 3) := by decide +kernel
theorem dX4_floods_12 : decode cX4_floods 12 = .ok (.iaload, 1) := by decide +kernel
theorem dX4_floods_13 : decode cX4_floods 13 = .ok (.ireturn, 1) := by decide +kernel
theorem dX4_plotsLost_0 : decode cX4_plotsLost 0 = .ok (.aload_n 0, 1) := by decide +kernel
theorem dX4_plotsLost_1 : decode cX4_plotsLost 1 = .ok (.iconst 0, 1) := by decide +kernel
theorem dX4_plotsLost_2 : decode cX4_plotsLost 2 = .ok (.putfield 37, 3) := by decide +kernel
theorem dX4_plotsLost_5 : decode cX4_plotsLost 5 = .ok (.aload_n 0, 1) := by decide +kernel
theorem dX4_plotsLost_6 : decode cX4_plotsLost 6 = .ok (.getfield 7, 3) := by decide +kernel
theorem dX4_plotsLost_9 : decode cX4_plotsLost 9 = .ok (.sipush 524, 3) := by decide +kernel
theorem dX4_plotsLost_12 : decode cX4_plotsLost 12 = .ok (.iaload, 1) := by decide +kernel
theorem dX4_plotsLost_13 : decode cX4_plotsLost 13 = .ok (.ireturn, 1) := by decide +kernel
set_option maxRecDepth 20000 in
theorem ggX4_lowCells_X4_isOwner : GoodIn wsX4_lowCells wsX4_isOwner := goodIn_r _ [5, 6, 7, 4, 8] (by decide +kernel) (by decide +kernel)
set_option maxRecDepth 20000 in
theorem gX4_lowCells_X4_isOwner : GoodIn wsX4_lowCells (va_wsS RX4 85 yX4_isOwner wsX4_isOwner) := goodIn_app (goodIn_of _ (by decide +kernel)) ggX4_lowCells_X4_isOwner
set_option maxRecDepth 20000 in
theorem ggX4_lowCells_X4_refuses : GoodIn wsX4_lowCells wsX4_refuses := goodIn_r _ [12, 1, 18, 19, 20, 21, 22, 23, 24, 25, 26, 27, 28, 29, 30, 31, 32] (by decide +kernel) (by decide +kernel)
set_option maxRecDepth 20000 in
theorem gX4_lowCells_X4_refuses : GoodIn wsX4_lowCells (wsV RX4 89 RX4 yX4_refuses wsX4_refuses) := goodIn_app (goodIn_of _ (by decide +kernel)) ggX4_lowCells_X4_refuses
set_option maxRecDepth 20000 in
theorem ggX4_lowCells_X4_in : GoodIn wsX4_lowCells wsX4_in := goodIn_r _ [8] (by decide +kernel) (by decide +kernel)
set_option maxRecDepth 20000 in
theorem gX4_lowCells_X4_in : GoodIn wsX4_lowCells (va_wsS RX4 48 yX4_in wsX4_in) := goodIn_app (goodIn_of _ (by decide +kernel)) ggX4_lowCells_X4_in
set_option maxRecDepth 20000 in
theorem ggX4_lowCells_X4_low : GoodIn wsX4_lowCells wsX4_low := goodIn_r _ [16, 17, 18, 19, 20, 21, 22, 23, 24, 25, 26, 27, 28, 29, 30, 31, 32] (by decide +kernel) (by decide +kernel)
set_option maxRecDepth 20000 in
theorem gX4_lowCells_X4_low : GoodIn wsX4_lowCells (wsV RX4 179 RX4 yX4_low wsX4_low) := goodIn_app (goodIn_of _ (by decide +kernel)) ggX4_lowCells_X4_low
theorem dX4_lowCells_0 : decode cX4_lowCells 0 = .ok (.aload_n 0, 1) := by decide +kernel
theorem dX4_lowCells_1 : decode cX4_lowCells 1 = .ok (.iconst 0, 1) := by decide +kernel
theorem dX4_lowCells_2 : decode cX4_lowCells 2 = .ok (.putfield 37, 3) := by decide +kernel
theorem dX4_lowCells_5 : decode cX4_lowCells 5 = .ok (.iload_n 1, 1) := by decide +kernel
theorem dX4_lowCells_6 : decode cX4_lowCells 6 = .ok (.invokestatic 85, 3) := by decide +kernel
theorem dX4_lowCells_9 : decode cX4_lowCells 9 = .ok (.ifCond .ne 9, 3) := by decide +kernel
theorem dX4_lowCells_12 : decode cX4_lowCells 12 = .ok (.aload_n 0, 1) := by decide +kernel
theorem dX4_lowCells_13 : decode cX4_lowCells 13 = .ok (.iconst 1, 1) := by decide +kernel
theorem dX4_lowCells_14 : decode cX4_lowCells 14 = .ok (.invokevirtual 89, 3) := by decide +kernel
theorem dX4_lowCells_17 : decode cX4_lowCells 17 = .ok (.ireturn, 1) := by decide +kernel
theorem dX4_lowCells_18 : decode cX4_lowCells 18 = .ok (.iload_n 2, 1) := by decide +kernel
theorem dX4_lowCells_19 : decode cX4_lowCells 19 = .ok (.iconst 1, 1) := by decide +kernel
theorem dX4_lowCells_20 : decode cX4_lowCells 20 = .ok (.bipush 10, 2) := by decide +kernel
theorem dX4_lowCells_22 : decode cX4_lowCells 22 = .ok (.invokestatic 48, 3) := by decide +kernel
theorem dX4_lowCells_25 : decode cX4_lowCells 25 = .ok (.ifCond .eq 12, 3) := by decide +kernel
theorem dX4_lowCells_28 : decode cX4_lowCells 28 = .ok (.aload_n 0, 1) := by decide +kernel
theorem dX4_lowCells_29 : decode cX4_lowCells 29 = .ok (.iload_n 1, 1) := by decide +kernel
theorem dX4_lowCells_30 : decode cX4_lowCells 30 = .ok (.iload_n 2, 1) := by decide +kernel
theorem dX4_lowCells_31 : decode cX4_lowCells 31 = .ok (.invokevirtual 179, 3) := by decide +kernel
theorem dX4_lowCells_34 : decode cX4_lowCells 34 = .ok (.goto 8, 3) := by decide +kernel
theorem dX4_lowCells_37 : decode cX4_lowCells 37 = .ok (.aload_n 0, 1) := by decide +kernel
theorem dX4_lowCells_38 : decode cX4_lowCells 38 = .ok (.iconst 2, 1) := by decide +kernel
theorem dX4_lowCells_39 : decode cX4_lowCells 39 = .ok (.invokevirtual 89, 3) := by decide +kernel
theorem dX4_lowCells_42 : decode cX4_lowCells 42 = .ok (.ireturn, 1) := by decide +kernel
set_option maxRecDepth 20000 in
theorem ggX4_wouldBePlots_X4_lays : GoodIn wsX4_wouldBePlots wsX4_lays := goodIn_r _ [6] (by decide +kernel) (by decide +kernel)
set_option maxRecDepth 20000 in
theorem gX4_wouldBePlots_X4_lays : GoodIn wsX4_wouldBePlots (va_wsS RX4 44 yX4_lays wsX4_lays) := goodIn_app (goodIn_of _ (by decide +kernel)) ggX4_wouldBePlots_X4_lays
set_option maxRecDepth 20000 in
theorem ggX4_wouldBePlots_X4_floodsTo : GoodIn wsX4_wouldBePlots wsX4_floodsTo := goodIn_r _ [10, 1, 29, 30, 31, 32, 33, 34, 35, 36, 37, 38, 39, 40, 41, 42, 43] (by decide +kernel) (by decide +kernel)
set_option maxRecDepth 20000 in
theorem gX4_wouldBePlots_X4_floodsTo : GoodIn wsX4_wouldBePlots (wsV RX4 101 RX4 yX4_floodsTo wsX4_floodsTo) := goodIn_app (goodIn_of _ (by decide +kernel)) ggX4_wouldBePlots_X4_floodsTo
set_option maxRecDepth 20000 in
theorem ggX4_wouldBePlots_X4_allPlots : GoodIn wsX4_wouldBePlots wsX4_allPlots := goodIn_r _ [14, 15, 16, 17, 18, 5, 19, 20, 21, 22, 23, 24, 25, 26, 27, 28, 1, 29, 30, 31, 32, 33, 34, 35, 36, 37, 38, 39, 40, 41, 42, 43] (by decide +kernel) (by decide +kernel)
set_option maxRecDepth 20000 in
theorem gX4_wouldBePlots_X4_allPlots : GoodIn wsX4_wouldBePlots (wsV RX4 161 RX4 yX4_allPlots wsX4_allPlots) := goodIn_app (goodIn_of _ (by decide +kernel)) ggX4_wouldBePlots_X4_allPlots
theorem dX4_wouldBePlots_0 : decode cX4_wouldBePlots 0 = .ok (.aload_n 0, 1) := by decide +kernel
theorem dX4_wouldBePlots_1 : decode cX4_wouldBePlots 1 = .ok (.getfield 7, 3) := by decide +kernel
theorem dX4_wouldBePlots_4 : decode cX4_wouldBePlots 4 = .ok (.iconst 0, 1) := by decide +kernel
theorem dX4_wouldBePlots_5 : decode cX4_wouldBePlots 5 = .ok (.aload_n 0, 1) := by decide +kernel
theorem dX4_wouldBePlots_6 : decode cX4_wouldBePlots 6 = .ok (.getfield 22, 3) := by decide +kernel
theorem dX4_wouldBePlots_9 : decode cX4_wouldBePlots 9 = .ok (.iconst 0, 1) := by decide +kernel
theorem dX4_wouldBePlots_10 : decode cX4_wouldBePlots 10 = .ok (.invokestatic 44, 3) := by decide +kernel
theorem dX4_wouldBePlots_13 : decode cX4_wouldBePlots 13 = .ok (.aload_n 0, 1) := by decide +kernel
theorem dX4_wouldBePlots_14 : decode cX4_wouldBePlots 14 = .ok (.iload_n 1, 1) := by decide +kernel
theorem dX4_wouldBePlots_15 : decode cX4_wouldBePlots 15 = .ok (.invokevirtual 101, 3) := by decide +kernel
theorem dX4_wouldBePlots_18 : decode cX4_wouldBePlots 18 = .ok (.istore_n 2, 1) := by decide +kernel
theorem dX4_wouldBePlots_19 : decode cX4_wouldBePlots 19 = .ok (.aload_n 0, 1) := by decide +kernel
theorem dX4_wouldBePlots_20 : decode cX4_wouldBePlots 20 = .ok (.invokevirtual 161, 3) := by decide +kernel
theorem dX4_wouldBePlots_23 : decode cX4_wouldBePlots 23 = .ok (.istore_n 3, 1) := by decide +kernel
theorem dX4_wouldBePlots_24 : decode cX4_wouldBePlots 24 = .ok (.aload_n 0, 1) := by decide +kernel
theorem dX4_wouldBePlots_25 : decode cX4_wouldBePlots 25 = .ok (.getfield 22, 3) := by decide +kernel
theorem dX4_wouldBePlots_28 : decode cX4_wouldBePlots 28 = .ok (.iconst 0, 1) := by decide +kernel
theorem dX4_wouldBePlots_29 : decode cX4_wouldBePlots 29 = .ok (.aload_n 0, 1) := by decide +kernel
theorem dX4_wouldBePlots_30 : decode cX4_wouldBePlots 30 = .ok (.getfield 7, 3) := by decide +kernel
theorem dX4_wouldBePlots_33 : decode cX4_wouldBePlots 33 = .ok (.iconst 0, 1) := by decide +kernel
theorem dX4_wouldBePlots_34 : decode cX4_wouldBePlots 34 = .ok (.invokestatic 44, 3) := by decide +kernel
theorem dX4_wouldBePlots_37 : decode cX4_wouldBePlots 37 = .ok (.iload_n 2, 1) := by decide +kernel
theorem dX4_wouldBePlots_38 : decode cX4_wouldBePlots 38 = .ok (.ifCond .ge 7, 3) := by decide +kernel
theorem dX4_wouldBePlots_41 : decode cX4_wouldBePlots 41 = .ok (.iconst (-1), 1) := by decide +kernel
theorem dX4_wouldBePlots_42 : decode cX4_wouldBePlots 42 = .ok (.goto 4, 3) := by decide +kernel
theorem dX4_wouldBePlots_45 : decode cX4_wouldBePlots 45 = .ok (.iload_n 3, 1) := by decide +kernel
theorem dX4_wouldBePlots_46 : decode cX4_wouldBePlots 46 = .ok (.ireturn, 1) := by decide +kernel
set_option maxRecDepth 20000 in
theorem ggX4_plotsIfFlooded_X4_in : GoodIn wsX4_plotsIfFlooded wsX4_in := goodIn_r _ [5] (by decide +kernel) (by decide +kernel)
set_option maxRecDepth 20000 in
theorem gX4_plotsIfFlooded_X4_in : GoodIn wsX4_plotsIfFlooded (va_wsS RX4 48 yX4_in wsX4_in) := goodIn_app (goodIn_of _ (by decide +kernel)) ggX4_plotsIfFlooded_X4_in
set_option maxRecDepth 20000 in
theorem ggX4_plotsIfFlooded_X4_wouldBePlots : GoodIn wsX4_plotsIfFlooded wsX4_wouldBePlots := goodIn_r _ [9, 10, 11, 12, 13, 4, 14, 15, 16, 17, 18, 19, 20, 21, 22, 23, 24, 25, 26, 27, 28, 29, 30, 31, 32, 33, 34, 35, 36, 41, 42, 43, 44, 45, 46, 47, 48, 49, 50, 51, 52, 53, 54, 55] (by decide +kernel) (by decide +kernel)
set_option maxRecDepth 20000 in
theorem gX4_plotsIfFlooded_X4_wouldBePlots : GoodIn wsX4_plotsIfFlooded (wsV RX4 182 RX4 yX4_wouldBePlots wsX4_wouldBePlots) := goodIn_app (goodIn_of _ (by decide +kernel)) ggX4_plotsIfFlooded_X4_wouldBePlots
set_option maxRecDepth 20000 in
theorem ggX4_plotsIfFlooded_X4_refuses : GoodIn wsX4_plotsIfFlooded wsX4_refuses := goodIn_r _ [40, 1, 41, 42, 43, 44, 45, 46, 47, 48, 49, 50, 51, 52, 53, 54, 55] (by decide +kernel) (by decide +kernel)
set_option maxRecDepth 20000 in
theorem gX4_plotsIfFlooded_X4_refuses : GoodIn wsX4_plotsIfFlooded (wsV RX4 89 RX4 yX4_refuses wsX4_refuses) := goodIn_app (goodIn_of _ (by decide +kernel)) ggX4_plotsIfFlooded_X4_refuses
theorem dX4_plotsIfFlooded_0 : decode cX4_plotsIfFlooded 0 = .ok (.aload_n 0, 1) := by decide +kernel
theorem dX4_plotsIfFlooded_1 : decode cX4_plotsIfFlooded 1 = .ok (.iconst 0, 1) := by decide +kernel
theorem dX4_plotsIfFlooded_2 : decode cX4_plotsIfFlooded 2 = .ok (.putfield 37, 3) := by decide +kernel
theorem dX4_plotsIfFlooded_5 : decode cX4_plotsIfFlooded 5 = .ok (.iload_n 1, 1) := by decide +kernel
theorem dX4_plotsIfFlooded_6 : decode cX4_plotsIfFlooded 6 = .ok (.iconst 1, 1) := by decide +kernel
theorem dX4_plotsIfFlooded_7 : decode cX4_plotsIfFlooded 7 = .ok (.bipush 10, 2) := by decide +kernel
theorem dX4_plotsIfFlooded_9 : decode cX4_plotsIfFlooded 9 = .ok (.invokestatic 48, 3) := by decide +kernel
theorem dX4_plotsIfFlooded_12 : decode cX4_plotsIfFlooded 12 = .ok (.ifCond .eq 11, 3) := by decide +kernel
theorem dX4_plotsIfFlooded_15 : decode cX4_plotsIfFlooded 15 = .ok (.aload_n 0, 1) := by decide +kernel
theorem dX4_plotsIfFlooded_16 : decode cX4_plotsIfFlooded 16 = .ok (.iload_n 1, 1) := by decide +kernel
theorem dX4_plotsIfFlooded_17 : decode cX4_plotsIfFlooded 17 = .ok (.invokevirtual 182, 3) := by decide +kernel
theorem dX4_plotsIfFlooded_20 : decode cX4_plotsIfFlooded 20 = .ok (.goto 8, 3) := by decide +kernel
theorem dX4_plotsIfFlooded_23 : decode cX4_plotsIfFlooded 23 = .ok (.aload_n 0, 1) := by decide +kernel
theorem dX4_plotsIfFlooded_24 : decode cX4_plotsIfFlooded 24 = .ok (.iconst 1, 1) := by decide +kernel
theorem dX4_plotsIfFlooded_25 : decode cX4_plotsIfFlooded 25 = .ok (.invokevirtual 89, 3) := by decide +kernel
theorem dX4_plotsIfFlooded_28 : decode cX4_plotsIfFlooded 28 = .ok (.ireturn, 1) := by decide +kernel
set_option maxRecDepth 20000 in
theorem ggX4_wouldLose_X4_lays : GoodIn wsX4_wouldLose wsX4_lays := goodIn_r _ [6] (by decide +kernel) (by decide +kernel)
set_option maxRecDepth 20000 in
theorem gX4_wouldLose_X4_lays : GoodIn wsX4_wouldLose (va_wsS RX4 44 yX4_lays wsX4_lays) := goodIn_app (goodIn_of _ (by decide +kernel)) ggX4_wouldLose_X4_lays
set_option maxRecDepth 20000 in
theorem ggX4_wouldLose_X4_loses : GoodIn wsX4_wouldLose wsX4_loses := goodIn_r _ [10, 1, 11, 12, 13, 14, 15, 5, 16, 17, 18, 19, 20, 21, 22, 23, 24, 25, 26, 27, 28, 29, 30, 31, 32, 33, 34, 35, 36, 37, 38, 39, 40, 41, 42, 43, 44, 45, 46, 47, 48, 49, 50, 51, 52, 53, 54, 55] (by decide +kernel) (by decide +kernel)
set_option maxRecDepth 20000 in
theorem gX4_wouldLose_X4_loses : GoodIn wsX4_wouldLose (wsV RX4 79 RX4 yX4_loses wsX4_loses) := goodIn_app (goodIn_of _ (by decide +kernel)) ggX4_wouldLose_X4_loses
theorem dX4_wouldLose_0 : decode cX4_wouldLose 0 = .ok (.aload_n 0, 1) := by decide +kernel
theorem dX4_wouldLose_1 : decode cX4_wouldLose 1 = .ok (.getfield 7, 3) := by decide +kernel
theorem dX4_wouldLose_4 : decode cX4_wouldLose 4 = .ok (.iconst 0, 1) := by decide +kernel
theorem dX4_wouldLose_5 : decode cX4_wouldLose 5 = .ok (.aload_n 0, 1) := by decide +kernel
theorem dX4_wouldLose_6 : decode cX4_wouldLose 6 = .ok (.getfield 22, 3) := by decide +kernel
theorem dX4_wouldLose_9 : decode cX4_wouldLose 9 = .ok (.iconst 0, 1) := by decide +kernel
theorem dX4_wouldLose_10 : decode cX4_wouldLose 10 = .ok (.invokestatic 44, 3) := by decide +kernel
theorem dX4_wouldLose_13 : decode cX4_wouldLose 13 = .ok (.aload_n 0, 1) := by decide +kernel
theorem dX4_wouldLose_14 : decode cX4_wouldLose 14 = .ok (.iload_n 1, 1) := by decide +kernel
theorem dX4_wouldLose_15 : decode cX4_wouldLose 15 = .ok (.invokevirtual 79, 3) := by decide +kernel
theorem dX4_wouldLose_18 : decode cX4_wouldLose 18 = .ok (.istore_n 2, 1) := by decide +kernel
theorem dX4_wouldLose_19 : decode cX4_wouldLose 19 = .ok (.aload_n 0, 1) := by decide +kernel
theorem dX4_wouldLose_20 : decode cX4_wouldLose 20 = .ok (.getfield 22, 3) := by decide +kernel
theorem dX4_wouldLose_23 : decode cX4_wouldLose 23 = .ok (.iconst 0, 1) := by decide +kernel
theorem dX4_wouldLose_24 : decode cX4_wouldLose 24 = .ok (.aload_n 0, 1) := by decide +kernel
theorem dX4_wouldLose_25 : decode cX4_wouldLose 25 = .ok (.getfield 7, 3) := by decide +kernel
theorem dX4_wouldLose_28 : decode cX4_wouldLose 28 = .ok (.iconst 0, 1) := by decide +kernel
theorem dX4_wouldLose_29 : decode cX4_wouldLose 29 = .ok (.invokestatic 44, 3) := by decide +kernel
theorem dX4_wouldLose_32 : decode cX4_wouldLose 32 = .ok (.iload_n 2, 1) := by decide +kernel
theorem dX4_wouldLose_33 : decode cX4_wouldLose 33 = .ok (.ireturn, 1) := by decide +kernel
set_option maxRecDepth 20000 in
theorem ggX4_lossesIfTaxed_X4_isPerson : GoodIn wsX4_lossesIfTaxed wsX4_isPerson := goodIn_r _ [5, 6, 7, 4, 8] (by decide +kernel) (by decide +kernel)
set_option maxRecDepth 20000 in
theorem gX4_lossesIfTaxed_X4_isPerson : GoodIn wsX4_lossesIfTaxed (va_wsS RX4 104 yX4_isPerson wsX4_isPerson) := goodIn_app (goodIn_of _ (by decide +kernel)) ggX4_lossesIfTaxed_X4_isPerson
set_option maxRecDepth 20000 in
theorem ggX4_lossesIfTaxed_X4_wouldLose : GoodIn wsX4_lossesIfTaxed wsX4_wouldLose := goodIn_r _ [12, 13, 14, 15, 16, 4, 17, 18, 19, 20, 21, 22, 23, 24, 25, 26, 27, 28, 29, 30, 31, 32, 33, 34, 35, 36, 37, 38, 39, 40, 41, 42, 43, 44, 45, 46, 47, 48, 49, 50, 51, 56, 57, 58, 59, 60, 61, 62, 63, 64, 65, 66, 67, 68, 69, 70] (by decide +kernel) (by decide +kernel)
set_option maxRecDepth 20000 in
theorem gX4_lossesIfTaxed_X4_wouldLose : GoodIn wsX4_lossesIfTaxed (wsV RX4 185 RX4 yX4_wouldLose wsX4_wouldLose) := goodIn_app (goodIn_of _ (by decide +kernel)) ggX4_lossesIfTaxed_X4_wouldLose
set_option maxRecDepth 20000 in
theorem ggX4_lossesIfTaxed_X4_refuses : GoodIn wsX4_lossesIfTaxed wsX4_refuses := goodIn_r _ [55, 1, 56, 57, 58, 59, 60, 61, 62, 63, 64, 65, 66, 67, 68, 69, 70] (by decide +kernel) (by decide +kernel)
set_option maxRecDepth 20000 in
theorem gX4_lossesIfTaxed_X4_refuses : GoodIn wsX4_lossesIfTaxed (wsV RX4 89 RX4 yX4_refuses wsX4_refuses) := goodIn_app (goodIn_of _ (by decide +kernel)) ggX4_lossesIfTaxed_X4_refuses
theorem dX4_lossesIfTaxed_0 : decode cX4_lossesIfTaxed 0 = .ok (.aload_n 0, 1) := by decide +kernel
theorem dX4_lossesIfTaxed_1 : decode cX4_lossesIfTaxed 1 = .ok (.iconst 0, 1) := by decide +kernel
theorem dX4_lossesIfTaxed_2 : decode cX4_lossesIfTaxed 2 = .ok (.putfield 37, 3) := by decide +kernel
theorem dX4_lossesIfTaxed_5 : decode cX4_lossesIfTaxed 5 = .ok (.iload_n 1, 1) := by decide +kernel
theorem dX4_lossesIfTaxed_6 : decode cX4_lossesIfTaxed 6 = .ok (.invokestatic 104, 3) := by decide +kernel
theorem dX4_lossesIfTaxed_9 : decode cX4_lossesIfTaxed 9 = .ok (.ifCond .eq 11, 3) := by decide +kernel
theorem dX4_lossesIfTaxed_12 : decode cX4_lossesIfTaxed 12 = .ok (.aload_n 0, 1) := by decide +kernel
theorem dX4_lossesIfTaxed_13 : decode cX4_lossesIfTaxed 13 = .ok (.iload_n 1, 1) := by decide +kernel
theorem dX4_lossesIfTaxed_14 : decode cX4_lossesIfTaxed 14 = .ok (.invokevirtual 185, 3) := by decide +kernel
theorem dX4_lossesIfTaxed_17 : decode cX4_lossesIfTaxed 17 = .ok (.goto 8, 3) := by decide +kernel
theorem dX4_lossesIfTaxed_20 : decode cX4_lossesIfTaxed 20 = .ok (.aload_n 0, 1) := by decide +kernel
theorem dX4_lossesIfTaxed_21 : decode cX4_lossesIfTaxed 21 = .ok (.iconst 1, 1) := by decide +kernel
theorem dX4_lossesIfTaxed_22 : decode cX4_lossesIfTaxed 22 = .ok (.invokevirtual 89, 3) := by decide +kernel
theorem dX4_lossesIfTaxed_25 : decode cX4_lossesIfTaxed 25 = .ok (.ireturn, 1) := by decide +kernel
set_option maxRecDepth 20000 in
theorem ggX4_neighbour_X4_between : GoodIn wsX4_neighbour wsX4_between := goodIn_r _ [5, 6, 7, 8, 9, 10, 11, 12, 13, 14, 15, 16, 17, 18, 19, 20, 21] (by decide +kernel) (by decide +kernel)
set_option maxRecDepth 20000 in
theorem gX4_neighbour_X4_between : GoodIn wsX4_neighbour (wsV RX4 170 RX4 yX4_between wsX4_between) := goodIn_app (goodIn_of _ (by decide +kernel)) ggX4_neighbour_X4_between
theorem dX4_neighbour_0 : decode cX4_neighbour 0 = .ok (.iconst (-1), 1) := by decide +kernel
theorem dX4_neighbour_1 : decode cX4_neighbour 1 = .ok (.istore_n 2, 1) := by decide +kernel
theorem dX4_neighbour_2 : decode cX4_neighbour 2 = .ok (.iconst 0, 1) := by decide +kernel
theorem dX4_neighbour_3 : decode cX4_neighbour 3 = .ok (.istore_n 3, 1) := by decide +kernel
theorem dX4_neighbour_4 : decode cX4_neighbour 4 = .ok (.iconst 0, 1) := by decide +kernel
theorem dX4_neighbour_5 : decode cX4_neighbour 5 = .ok (.istore 4, 2) := by decide +kernel
theorem dX4_neighbour_7 : decode cX4_neighbour 7 = .ok (.iload 4, 2) := by decide +kernel
theorem dX4_neighbour_9 : decode cX4_neighbour 9 = .ok (.bipush 8, 2) := by decide +kernel
theorem dX4_neighbour_11 : decode cX4_neighbour 11 = .ok (.if_icmp .ge 44, 3) := by decide +kernel
theorem dX4_neighbour_14 : decode cX4_neighbour 14 = .ok (.aload_n 0, 1) := by decide +kernel
theorem dX4_neighbour_15 : decode cX4_neighbour 15 = .ok (.iload_n 1, 1) := by decide +kernel
theorem dX4_neighbour_16 : decode cX4_neighbour 16 = .ok (.iload 4, 2) := by decide +kernel
theorem dX4_neighbour_18 : decode cX4_neighbour 18 = .ok (.invokevirtual 170, 3) := by decide +kernel
theorem dX4_neighbour_21 : decode cX4_neighbour 21 = .ok (.istore 5, 2) := by decide +kernel
theorem dX4_neighbour_23 : decode cX4_neighbour 23 = .ok (.iload 5, 2) := by decide +kernel
theorem dX4_neighbour_25 : decode cX4_neighbour 25 = .ok (.iload_n 3, 1) := by decide +kernel
theorem dX4_neighbour_26 : decode cX4_neighbour 26 = .ok (.if_icmp .le 8, 3) := by decide +kernel
theorem dX4_neighbour_29 : decode cX4_neighbour 29 = .ok (.iload 4, 2) := by decide +kernel
theorem dX4_neighbour_31 : decode cX4_neighbour 31 = .ok (.goto 4, 3) := by decide +kernel
theorem dX4_neighbour_34 : decode cX4_neighbour 34 = .ok (.iload_n 2, 1) := by decide +kernel
theorem dX4_neighbour_35 : decode cX4_neighbour 35 = .ok (.istore_n 2, 1) := by decide +kernel
theorem dX4_neighbour_36 : decode cX4_neighbour 36 = .ok (.iload 5, 2) := by decide +kernel
theorem dX4_neighbour_38 : decode cX4_neighbour 38 = .ok (.iload_n 3, 1) := by decide +kernel
theorem dX4_neighbour_39 : decode cX4_neighbour 39 = .ok (.if_icmp .le 8, 3) := by decide +kernel
theorem dX4_neighbour_42 : decode cX4_neighbour 42 = .ok (.iload 5, 2) := by decide +kernel
theorem dX4_neighbour_44 : decode cX4_neighbour 44 = .ok (.goto 4, 3) := by decide +kernel
theorem dX4_neighbour_47 : decode cX4_neighbour 47 = .ok (.iload_n 3, 1) := by decide +kernel
theorem dX4_neighbour_48 : decode cX4_neighbour 48 = .ok (.istore_n 3, 1) := by decide +kernel
theorem dX4_neighbour_49 : decode cX4_neighbour 49 = .ok (.iinc 4 1, 3) := by decide +kernel
theorem dX4_neighbour_52 : decode cX4_neighbour 52 = .ok (.goto (-45), 3) := by decide +kernel
theorem dX4_neighbour_55 : decode cX4_neighbour 55 = .ok (.iload_n 2, 1) := by decide +kernel
theorem dX4_neighbour_56 : decode cX4_neighbour 56 = .ok (.ireturn, 1) := by decide +kernel
set_option maxRecDepth 20000 in
theorem ggX4_nearestNeighbour_X4_isOwner : GoodIn wsX4_nearestNeighbour wsX4_isOwner := goodIn_r _ [5, 6, 7, 4, 8] (by decide +kernel) (by decide +kernel)
set_option maxRecDepth 20000 in
theorem gX4_nearestNeighbour_X4_isOwner : GoodIn wsX4_nearestNeighbour (va_wsS RX4 85 yX4_isOwner wsX4_isOwner) := goodIn_app (goodIn_of _ (by decide +kernel)) ggX4_nearestNeighbour_X4_isOwner
set_option maxRecDepth 20000 in
theorem ggX4_nearestNeighbour_X4_neighbour : GoodIn wsX4_nearestNeighbour wsX4_neighbour := goodIn_r _ [12, 13, 14, 15, 4, 16, 17, 22, 23, 24, 25, 26, 27, 28, 29, 30, 31, 32, 33, 34, 35, 36] (by decide +kernel) (by decide +kernel)
set_option maxRecDepth 20000 in
theorem gX4_nearestNeighbour_X4_neighbour : GoodIn wsX4_nearestNeighbour (wsV RX4 188 RX4 yX4_neighbour wsX4_neighbour) := goodIn_app (goodIn_of _ (by decide +kernel)) ggX4_nearestNeighbour_X4_neighbour
set_option maxRecDepth 20000 in
theorem ggX4_nearestNeighbour_X4_refuses : GoodIn wsX4_nearestNeighbour wsX4_refuses := goodIn_r _ [21, 1, 22, 23, 24, 25, 26, 27, 28, 29, 30, 31, 32, 33, 34, 35, 36] (by decide +kernel) (by decide +kernel)
set_option maxRecDepth 20000 in
theorem gX4_nearestNeighbour_X4_refuses : GoodIn wsX4_nearestNeighbour (wsV RX4 89 RX4 yX4_refuses wsX4_refuses) := goodIn_app (goodIn_of _ (by decide +kernel)) ggX4_nearestNeighbour_X4_refuses
theorem dX4_nearestNeighbour_0 : decode cX4_nearestNeighbour 0 = .ok (.aload_n 0, 1) := by decide +kernel
theorem dX4_nearestNeighbour_1 : decode cX4_nearestNeighbour 1 = .ok (.iconst 0, 1) := by decide +kernel
theorem dX4_nearestNeighbour_2 : decode cX4_nearestNeighbour 2 = .ok (.putfield 37, 3) := by decide +kernel
theorem dX4_nearestNeighbour_5 : decode cX4_nearestNeighbour 5 = .ok (.iload_n 1, 1) := by decide +kernel
theorem dX4_nearestNeighbour_6 : decode cX4_nearestNeighbour 6 = .ok (.invokestatic 85, 3) := by decide +kernel
theorem dX4_nearestNeighbour_9 : decode cX4_nearestNeighbour 9 = .ok (.ifCond .eq 11, 3) := by decide +kernel
theorem dX4_nearestNeighbour_12 : decode cX4_nearestNeighbour 12 = .ok (.aload_n 0, 1) := by decide +kernel
theorem dX4_nearestNeighbour_13 : decode cX4_nearestNeighbour 13 = .ok (.iload_n 1, 1) := by decide +kernel
theorem dX4_nearestNeighbour_14 : decode cX4_nearestNeighbour 14 = .ok (.invokevirtual 188, 3) := by decide +kernel
theorem dX4_nearestNeighbour_17 : decode cX4_nearestNeighbour 17 = .ok (.goto 8, 3) := by decide +kernel
theorem dX4_nearestNeighbour_20 : decode cX4_nearestNeighbour 20 = .ok (.aload_n 0, 1) := by decide +kernel
theorem dX4_nearestNeighbour_21 : decode cX4_nearestNeighbour 21 = .ok (.iconst 1, 1) := by decide +kernel
theorem dX4_nearestNeighbour_22 : decode cX4_nearestNeighbour 22 = .ok (.invokevirtual 89, 3) := by decide +kernel
theorem dX4_nearestNeighbour_25 : decode cX4_nearestNeighbour 25 = .ok (.ireturn, 1) := by decide +kernel
theorem dX4_meanHeight_0 : decode cX4_meanHeight 0 = .ok (.aload_n 0, 1) := by decide +kernel
theorem dX4_meanHeight_1 : decode cX4_meanHeight 1 = .ok (.iconst 0, 1) := by decide +kernel
theorem dX4_meanHeight_2 : decode cX4_meanHeight 2 = .ok (.putfield 37, 3) := by decide +kernel
theorem dX4_meanHeight_5 : decode cX4_meanHeight 5 = .ok (.dconst 0, 1) := by decide +kernel
theorem dX4_meanHeight_6 : decode cX4_meanHeight 6 = .ok (.dstore_n 1, 1) := by decide +kernel
theorem dX4_meanHeight_7 : decode cX4_meanHeight 7 = .ok (.iconst 0, 1) := by decide +kernel
theorem dX4_meanHeight_8 : decode cX4_meanHeight 8 = .ok (.istore_n 3, 1) := by decide +kernel
theorem dX4_meanHeight_9 : decode cX4_meanHeight 9 = .ok (.iload_n 3, 1) := by decide +kernel
theorem dX4_meanHeight_10 : decode cX4_meanHeight 10 = .ok (.sipush 256, 3) := by decide +kernel
theorem dX4_meanHeight_13 : decode cX4_meanHeight 13 = .ok (.if_icmp .ge 23, 3) := by decide +kernel
theorem dX4_meanHeight_16 : decode cX4_meanHeight 16 = .ok (.dload_n 1, 1) := by decide +kernel
theorem dX4_meanHeight_17 : decode cX4_meanHeight 17 = .ok (.aload_n 0, 1) := by decide +kernel
theorem dX4_meanHeight_18 : decode cX4_meanHeight 18 = .ok (.getfield 7, 3) := by decide +kernel
theorem dX4_meanHeight_21 : decode cX4_meanHeight 21 = .ok (.sipush 256, 3) := by decide +kernel
theorem dX4_meanHeight_24 : decode cX4_meanHeight 24 = .ok (.iload_n 3, 1) := by decide +kernel
theorem dX4_meanHeight_25 : decode cX4_meanHeight 25 = .ok (.iadd, 1) := by decide +kernel
theorem dX4_meanHeight_26 : decode cX4_meanHeight 26 = .ok (.iaload, 1) := by decide +kernel
theorem dX4_meanHeight_27 : decode cX4_meanHeight 27 = .ok (.i2d, 1) := by decide +kernel
theorem dX4_meanHeight_28 : decode cX4_meanHeight 28 = .ok (.dadd, 1) := by decide +kernel
theorem dX4_meanHeight_29 : decode cX4_meanHeight 29 = .ok (.dstore_n 1, 1) := by decide +kernel
theorem dX4_meanHeight_30 : decode cX4_meanHeight 30 = .ok (.iinc 3 1, 3) := by decide +kernel
theorem dX4_meanHeight_33 : decode cX4_meanHeight 33 = .ok (.goto (-24), 3) := by decide +kernel
theorem dX4_meanHeight_36 : decode cX4_meanHeight 36 = .ok (.dload_n 1, 1) := by decide +kernel
theorem dX4_meanHeight_37 : decode cX4_meanHeight 37 = .ok (.ldc2_w 191, 3) := by decide +kernel
theorem dX4_meanHeight_40 : decode cX4_meanHeight 40 = .ok (.ddiv, 1) := by decide +kernel
theorem dX4_meanHeight_41 : decode cX4_meanHeight 41 = .ok (.dreturn, 1) := by decide +kernel

