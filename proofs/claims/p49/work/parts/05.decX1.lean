set_option maxRecDepth 20000 in
theorem ggX1_init_J7_fill_53178 : GoodIn wsX1_init wsJ7_fill_53178 := goodIn_r _ [16] (by decide +kernel) (by decide +kernel)
set_option maxRecDepth 20000 in
theorem gX1_init_J7_fill_53178 : GoodIn wsX1_init (va_wsS RX1 37 yJ7_fill_53178 wsJ7_fill_53178) := goodIn_app (goodIn_of _ (by decide +kernel)) ggX1_init_J7_fill_53178
theorem dX1_init_0 : decode cX1_init 0 = .ok (.aload_n 0, 1) := by decide +kernel
theorem dX1_init_1 : decode cX1_init 1 = .ok (.invokespecial 3, 3) := by decide +kernel
theorem dX1_init_4 : decode cX1_init 4 = .ok (.aload_n 0, 1) := by decide +kernel
theorem dX1_init_5 : decode cX1_init 5 = .ok (.sipush 256, 3) := by decide +kernel
theorem dX1_init_8 : decode cX1_init 8 = .ok (.newarray .int, 2) := by decide +kernel
theorem dX1_init_10 : decode cX1_init 10 = .ok (.putfield 9, 3) := by decide +kernel
theorem dX1_init_13 : decode cX1_init 13 = .ok (.aload_n 0, 1) := by decide +kernel
theorem dX1_init_14 : decode cX1_init 14 = .ok (.sipush 256, 3) := by decide +kernel
theorem dX1_init_17 : decode cX1_init 17 = .ok (.newarray .int, 2) := by decide +kernel
theorem dX1_init_19 : decode cX1_init 19 = .ok (.putfield 15, 3) := by decide +kernel
theorem dX1_init_22 : decode cX1_init 22 = .ok (.aload_n 0, 1) := by decide +kernel
theorem dX1_init_23 : decode cX1_init 23 = .ok (.bipush 8, 2) := by decide +kernel
theorem dX1_init_25 : decode cX1_init 25 = .ok (.newarray .int, 2) := by decide +kernel
theorem dX1_init_27 : decode cX1_init 27 = .ok (.putfield 18, 3) := by decide +kernel
theorem dX1_init_30 : decode cX1_init 30 = .ok (.aload_n 0, 1) := by decide +kernel
theorem dX1_init_31 : decode cX1_init 31 = .ok (.iconst 2, 1) := by decide +kernel
theorem dX1_init_32 : decode cX1_init 32 = .ok (.putfield 21, 3) := by decide +kernel
theorem dX1_init_35 : decode cX1_init 35 = .ok (.aload_n 0, 1) := by decide +kernel
theorem dX1_init_36 : decode cX1_init 36 = .ok (.iconst 1, 1) := by decide +kernel
theorem dX1_init_37 : decode cX1_init 37 = .ok (.putfield 25, 3) := by decide +kernel
theorem dX1_init_40 : decode cX1_init 40 = .ok (.aload_n 0, 1) := by decide +kernel
theorem dX1_init_41 : decode cX1_init 41 = .ok (.iconst 0, 1) := by decide +kernel
theorem dX1_init_42 : decode cX1_init 42 = .ok (.putfield 28, 3) := by decide +kernel
theorem dX1_init_45 : decode cX1_init 45 = .ok (.aload_n 0, 1) := by decide +kernel
theorem dX1_init_46 : decode cX1_init 46 = .ok (.iconst 0, 1) := by decide +kernel
theorem dX1_init_47 : decode cX1_init 47 = .ok (.putfield 31, 3) := by decide +kernel
theorem dX1_init_50 : decode cX1_init 50 = .ok (.aload_n 0, 1) := by decide +kernel
theorem dX1_init_51 : decode cX1_init 51 = .ok (.iconst 0, 1) := by decide +kernel
theorem dX1_init_52 : decode cX1_init 52 = .ok (.putfield 34, 3) := by decide +kernel
theorem dX1_init_55 : decode cX1_init 55 = .ok (.aload_n 0, 1) := by decide +kernel
theorem dX1_init_56 : decode cX1_init 56 = .ok (.getfield 9, 3) := by decide +kernel
theorem dX1_init_59 : decode cX1_init 59 = .ok (.iconst 0, 1) := by decide +kernel
theorem dX1_init_60 : decode cX1_init 60 = .ok (.invokestatic 37, 3) := by decide +kernel
theorem dX1_init_63 : decode cX1_init 63 = .ok (.aload_n 0, 1) := by decide +kernel
theorem dX1_init_64 : decode cX1_init 64 = .ok (.getfield 15, 3) := by decide +kernel
theorem dX1_init_67 : decode cX1_init 67 = .ok (.iconst 5, 1) := by decide +kernel
theorem dX1_init_68 : decode cX1_init 68 = .ok (.invokestatic 37, 3) := by decide +kernel
theorem dX1_init_71 : decode cX1_init 71 = .ok (.aload_n 0, 1) := by decide +kernel
theorem dX1_init_72 : decode cX1_init 72 = .ok (.getfield 18, 3) := by decide +kernel
theorem dX1_init_75 : decode cX1_init 75 = .ok (.bipush 100, 2) := by decide +kernel
theorem dX1_init_77 : decode cX1_init 77 = .ok (.invokestatic 37, 3) := by decide +kernel
theorem dX1_init_80 : decode cX1_init 80 = .ok (.aload_n 0, 1) := by decide +kernel
theorem dX1_init_81 : decode cX1_init 81 = .ok (.getfield 18, 3) := by decide +kernel
theorem dX1_init_84 : decode cX1_init 84 = .ok (.iconst 0, 1) := by decide +kernel
theorem dX1_init_85 : decode cX1_init 85 = .ok (.iconst 0, 1) := by decide +kernel
theorem dX1_init_86 : decode cX1_init 86 = .ok (.iastore, 1) := by decide +kernel
theorem dX1_init_87 : decode cX1_init 87 = .ok (.return_, 1) := by decide +kernel
theorem dX1_become_0 : decode cX1_become 0 = .ok (.aload_n 1, 1) := by decide +kernel
theorem dX1_become_1 : decode cX1_become 1 = .ok (.ifnonnull 4, 3) := by decide +kernel
theorem dX1_become_4 : decode cX1_become 4 = .ok (.return_, 1) := by decide +kernel
theorem dX1_become_5 : decode cX1_become 5 = .ok (.aload_n 1, 1) := by decide +kernel
theorem dX1_become_6 : decode cX1_become 6 = .ok (.getfield 9, 3) := by decide +kernel
theorem dX1_become_9 : decode cX1_become 9 = .ok (.iconst 0, 1) := by decide +kernel
theorem dX1_become_10 : decode cX1_become 10 = .ok (.aload_n 0, 1) := by decide +kernel
theorem dX1_become_11 : decode cX1_become 11 = .ok (.getfield 9, 3) := by decide +kernel
theorem dX1_become_14 : decode cX1_become 14 = .ok (.iconst 0, 1) := by decide +kernel
theorem dX1_become_15 : decode cX1_become 15 = .ok (.sipush 256, 3) := by decide +kernel
theorem dX1_become_18 : decode cX1_become 18 = .ok (.invokestatic 43, 3) := by decide +kernel
theorem dX1_become_21 : decode cX1_become 21 = .ok (.aload_n 1, 1) := by decide +kernel
theorem dX1_become_22 : decode cX1_become 22 = .ok (.getfield 15, 3) := by decide +kernel
theorem dX1_become_25 : decode cX1_become 25 = .ok (.iconst 0, 1) := by decide +kernel
theorem dX1_become_26 : decode cX1_become 26 = .ok (.aload_n 0, 1) := by decide +kernel
theorem dX1_become_27 : decode cX1_become 27 = .ok (.getfield 15, 3) := by decide +kernel
theorem dX1_become_30 : decode cX1_become 30 = .ok (.iconst 0, 1) := by decide +kernel
theorem dX1_become_31 : decode cX1_become 31 = .ok (.sipush 256, 3) := by decide +kernel
theorem dX1_become_34 : decode cX1_become 34 = .ok (.invokestatic 43, 3) := by decide +kernel
theorem dX1_become_37 : decode cX1_become 37 = .ok (.aload_n 1, 1) := by decide +kernel
theorem dX1_become_38 : decode cX1_become 38 = .ok (.getfield 18, 3) := by decide +kernel
theorem dX1_become_41 : decode cX1_become 41 = .ok (.iconst 0, 1) := by decide +kernel
theorem dX1_become_42 : decode cX1_become 42 = .ok (.aload_n 0, 1) := by decide +kernel
theorem dX1_become_43 : decode cX1_become 43 = .ok (.getfield 18, 3) := by decide +kernel
theorem dX1_become_46 : decode cX1_become 46 = .ok (.iconst 0, 1) := by decide +kernel
theorem dX1_become_47 : decode cX1_become 47 = .ok (.bipush 8, 2) := by decide +kernel
theorem dX1_become_49 : decode cX1_become 49 = .ok (.invokestatic 43, 3) := by decide +kernel
theorem dX1_become_52 : decode cX1_become 52 = .ok (.aload_n 0, 1) := by decide +kernel
theorem dX1_become_53 : decode cX1_become 53 = .ok (.aload_n 1, 1) := by decide +kernel
theorem dX1_become_54 : decode cX1_become 54 = .ok (.getfield 21, 3) := by decide +kernel
theorem dX1_become_57 : decode cX1_become 57 = .ok (.putfield 21, 3) := by decide +kernel
theorem dX1_become_60 : decode cX1_become 60 = .ok (.aload_n 0, 1) := by decide +kernel
theorem dX1_become_61 : decode cX1_become 61 = .ok (.aload_n 1, 1) := by decide +kernel
theorem dX1_become_62 : decode cX1_become 62 = .ok (.getfield 25, 3) := by decide +kernel
theorem dX1_become_65 : decode cX1_become 65 = .ok (.putfield 25, 3) := by decide +kernel
theorem dX1_become_68 : decode cX1_become 68 = .ok (.aload_n 0, 1) := by decide +kernel
theorem dX1_become_69 : decode cX1_become 69 = .ok (.aload_n 1, 1) := by decide +kernel
theorem dX1_become_70 : decode cX1_become 70 = .ok (.getfield 28, 3) := by decide +kernel
theorem dX1_become_73 : decode cX1_become 73 = .ok (.putfield 28, 3) := by decide +kernel
theorem dX1_become_76 : decode cX1_become 76 = .ok (.aload_n 0, 1) := by decide +kernel
theorem dX1_become_77 : decode cX1_become 77 = .ok (.aload_n 1, 1) := by decide +kernel
theorem dX1_become_78 : decode cX1_become 78 = .ok (.getfield 31, 3) := by decide +kernel
theorem dX1_become_81 : decode cX1_become 81 = .ok (.putfield 31, 3) := by decide +kernel
theorem dX1_become_84 : decode cX1_become 84 = .ok (.aload_n 0, 1) := by decide +kernel
theorem dX1_become_85 : decode cX1_become 85 = .ok (.aload_n 1, 1) := by decide +kernel
theorem dX1_become_86 : decode cX1_become 86 = .ok (.getfield 34, 3) := by decide +kernel
theorem dX1_become_89 : decode cX1_become 89 = .ok (.putfield 34, 3) := by decide +kernel
theorem dX1_become_92 : decode cX1_become 92 = .ok (.return_, 1) := by decide +kernel
set_option maxRecDepth 20000 in
theorem ggX1_ownerOf_X3_isCell : GoodIn wsX1_ownerOf wsX3_isCell := goodIn_r _ [4] (by decide +kernel) (by decide +kernel)
set_option maxRecDepth 20000 in
theorem gX1_ownerOf_X3_isCell_n49 : GoodIn wsX1_ownerOf (wsX3_isCell) := ggX1_ownerOf_X3_isCell
theorem dX1_ownerOf_0 : decode cX1_ownerOf 0 = .ok (.iload_n 1, 1) := by decide +kernel
theorem dX1_ownerOf_1 : decode cX1_ownerOf 1 = .ok (.iload_n 2, 1) := by decide +kernel
theorem dX1_ownerOf_2 : decode cX1_ownerOf 2 = .ok (.invokestatic 49, 3) := by decide +kernel
theorem dX1_ownerOf_5 : decode cX1_ownerOf 5 = .ok (.ifCond .eq 17, 3) := by decide +kernel
theorem dX1_ownerOf_8 : decode cX1_ownerOf 8 = .ok (.aload_n 0, 1) := by decide +kernel
theorem dX1_ownerOf_9 : decode cX1_ownerOf 9 = .ok (.getfield 9, 3) := by decide +kernel
theorem dX1_ownerOf_12 : decode cX1_ownerOf 12 = .ok (.iload_n 2, 1) := by decide +kernel
theorem dX1_ownerOf_13 : decode cX1_ownerOf 13 = .ok (.bipush 16, 2) := by decide +kernel
theorem dX1_ownerOf_15 : decode cX1_ownerOf 15 = .ok (.imul, 1) := by decide +kernel
theorem dX1_ownerOf_16 : decode cX1_ownerOf 16 = .ok (.iload_n 1, 1) := by decide +kernel
theorem dX1_ownerOf_17 : decode cX1_ownerOf 17 = .ok (.iadd, 1) := by decide +kernel
theorem dX1_ownerOf_18 : decode cX1_ownerOf 18 = .ok (.iaload, 1) := by decide +kernel
theorem dX1_ownerOf_19 : decode cX1_ownerOf 19 = .ok (.goto 4, 3) := by decide +kernel
theorem dX1_ownerOf_22 : decode cX1_ownerOf 22 = .ok (.iconst (-1), 1) := by decide +kernel
theorem dX1_ownerOf_23 : decode cX1_ownerOf 23 = .ok (.ireturn, 1) := by decide +kernel
set_option maxRecDepth 20000 in
theorem ggX1_heightOf_X3_isCell : GoodIn wsX1_heightOf wsX3_isCell := goodIn_r _ [4] (by decide +kernel) (by decide +kernel)
set_option maxRecDepth 20000 in
theorem gX1_heightOf_X3_isCell_n49 : GoodIn wsX1_heightOf (wsX3_isCell) := ggX1_heightOf_X3_isCell
theorem dX1_heightOf_0 : decode cX1_heightOf 0 = .ok (.iload_n 1, 1) := by decide +kernel
theorem dX1_heightOf_1 : decode cX1_heightOf 1 = .ok (.iload_n 2, 1) := by decide +kernel
theorem dX1_heightOf_2 : decode cX1_heightOf 2 = .ok (.invokestatic 49, 3) := by decide +kernel
theorem dX1_heightOf_5 : decode cX1_heightOf 5 = .ok (.ifCond .eq 17, 3) := by decide +kernel
theorem dX1_heightOf_8 : decode cX1_heightOf 8 = .ok (.aload_n 0, 1) := by decide +kernel
theorem dX1_heightOf_9 : decode cX1_heightOf 9 = .ok (.getfield 15, 3) := by decide +kernel
theorem dX1_heightOf_12 : decode cX1_heightOf 12 = .ok (.iload_n 2, 1) := by decide +kernel
theorem dX1_heightOf_13 : decode cX1_heightOf 13 = .ok (.bipush 16, 2) := by decide +kernel
theorem dX1_heightOf_15 : decode cX1_heightOf 15 = .ok (.imul, 1) := by decide +kernel
theorem dX1_heightOf_16 : decode cX1_heightOf 16 = .ok (.iload_n 1, 1) := by decide +kernel
theorem dX1_heightOf_17 : decode cX1_heightOf 17 = .ok (.iadd, 1) := by decide +kernel
theorem dX1_heightOf_18 : decode cX1_heightOf 18 = .ok (.iaload, 1) := by decide +kernel
theorem dX1_heightOf_19 : decode cX1_heightOf 19 = .ok (.goto 4, 3) := by decide +kernel
theorem dX1_heightOf_22 : decode cX1_heightOf 22 = .ok (.iconst (-1), 1) := by decide +kernel
theorem dX1_heightOf_23 : decode cX1_heightOf 23 = .ok (.ireturn, 1) := by decide +kernel
set_option maxRecDepth 20000 in
theorem ggX1_purseOf_X3_isOwner : GoodIn wsX1_purseOf wsX3_isOwner := goodIn_r _ [4] (by decide +kernel) (by decide +kernel)
set_option maxRecDepth 20000 in
theorem gX1_purseOf_X3_isOwner_n53 : GoodIn wsX1_purseOf (wsX3_isOwner) := ggX1_purseOf_X3_isOwner
theorem dX1_purseOf_0 : decode cX1_purseOf 0 = .ok (.iload_n 1, 1) := by decide +kernel
theorem dX1_purseOf_1 : decode cX1_purseOf 1 = .ok (.invokestatic 53, 3) := by decide +kernel
theorem dX1_purseOf_4 : decode cX1_purseOf 4 = .ok (.ifCond .eq 12, 3) := by decide +kernel
theorem dX1_purseOf_7 : decode cX1_purseOf 7 = .ok (.aload_n 0, 1) := by decide +kernel
theorem dX1_purseOf_8 : decode cX1_purseOf 8 = .ok (.getfield 18, 3) := by decide +kernel
theorem dX1_purseOf_11 : decode cX1_purseOf 11 = .ok (.iload_n 1, 1) := by decide +kernel
theorem dX1_purseOf_12 : decode cX1_purseOf 12 = .ok (.iaload, 1) := by decide +kernel
theorem dX1_purseOf_13 : decode cX1_purseOf 13 = .ok (.goto 4, 3) := by decide +kernel
theorem dX1_purseOf_16 : decode cX1_purseOf 16 = .ok (.iconst (-1), 1) := by decide +kernel
theorem dX1_purseOf_17 : decode cX1_purseOf 17 = .ok (.ireturn, 1) := by decide +kernel
set_option maxRecDepth 20000 in
theorem ggX1_give_X3_isSquare : GoodIn wsX1_give wsX3_isSquare := goodIn_r _ [4] (by decide +kernel) (by decide +kernel)
set_option maxRecDepth 20000 in
theorem gX1_give_X3_isSquare_n57 : GoodIn wsX1_give (wsX3_isSquare) := ggX1_give_X3_isSquare
theorem dX1_give_0 : decode cX1_give 0 = .ok (.iconst 0, 1) := by decide +kernel
theorem dX1_give_1 : decode cX1_give 1 = .ok (.istore 5, 2) := by decide +kernel
theorem dX1_give_3 : decode cX1_give 3 = .ok (.iload_n 1, 1) := by decide +kernel
theorem dX1_give_4 : decode cX1_give 4 = .ok (.iload_n 2, 1) := by decide +kernel
theorem dX1_give_5 : decode cX1_give 5 = .ok (.iload_n 3, 1) := by decide +kernel
theorem dX1_give_6 : decode cX1_give 6 = .ok (.invokestatic 57, 3) := by decide +kernel
theorem dX1_give_9 : decode cX1_give 9 = .ok (.ifCond .ne 6, 3) := by decide +kernel
theorem dX1_give_12 : decode cX1_give 12 = .ok (.iload 5, 2) := by decide +kernel
theorem dX1_give_14 : decode cX1_give 14 = .ok (.ireturn, 1) := by decide +kernel
theorem dX1_give_15 : decode cX1_give 15 = .ok (.iload_n 2, 1) := by decide +kernel
theorem dX1_give_16 : decode cX1_give 16 = .ok (.istore 6, 2) := by decide +kernel
theorem dX1_give_18 : decode cX1_give 18 = .ok (.iload 6, 2) := by decide +kernel
theorem dX1_give_20 : decode cX1_give 20 = .ok (.iload_n 2, 1) := by decide +kernel
theorem dX1_give_21 : decode cX1_give 21 = .ok (.iload_n 3, 1) := by decide +kernel
theorem dX1_give_22 : decode cX1_give 22 = .ok (.iadd, 1) := by decide +kernel
theorem dX1_give_23 : decode cX1_give 23 = .ok (.if_icmp .ge 62, 3) := by decide +kernel
theorem dX1_give_26 : decode cX1_give 26 = .ok (.iload_n 1, 1) := by decide +kernel
theorem dX1_give_27 : decode cX1_give 27 = .ok (.istore 7, 2) := by decide +kernel
theorem dX1_give_29 : decode cX1_give 29 = .ok (.iload 7, 2) := by decide +kernel
theorem dX1_give_31 : decode cX1_give 31 = .ok (.iload_n 1, 1) := by decide +kernel
theorem dX1_give_32 : decode cX1_give 32 = .ok (.iload_n 3, 1) := by decide +kernel
theorem dX1_give_33 : decode cX1_give 33 = .ok (.iadd, 1) := by decide +kernel
theorem dX1_give_34 : decode cX1_give 34 = .ok (.if_icmp .ge 45, 3) := by decide +kernel
theorem dX1_give_37 : decode cX1_give 37 = .ok (.aload_n 0, 1) := by decide +kernel
theorem dX1_give_38 : decode cX1_give 38 = .ok (.getfield 9, 3) := by decide +kernel
theorem dX1_give_41 : decode cX1_give 41 = .ok (.iload 6, 2) := by decide +kernel
theorem dX1_give_43 : decode cX1_give 43 = .ok (.bipush 16, 2) := by decide +kernel
theorem dX1_give_45 : decode cX1_give 45 = .ok (.imul, 1) := by decide +kernel
theorem dX1_give_46 : decode cX1_give 46 = .ok (.iload 7, 2) := by decide +kernel
theorem dX1_give_48 : decode cX1_give 48 = .ok (.iadd, 1) := by decide +kernel
theorem dX1_give_49 : decode cX1_give 49 = .ok (.iaload, 1) := by decide +kernel
theorem dX1_give_50 : decode cX1_give 50 = .ok (.iload 4, 2) := by decide +kernel
theorem dX1_give_52 : decode cX1_give 52 = .ok (.if_icmp .eq 21, 3) := by decide +kernel
theorem dX1_give_55 : decode cX1_give 55 = .ok (.aload_n 0, 1) := by decide +kernel
theorem dX1_give_56 : decode cX1_give 56 = .ok (.getfield 9, 3) := by decide +kernel
theorem dX1_give_59 : decode cX1_give 59 = .ok (.iload 6, 2) := by decide +kernel
theorem dX1_give_61 : decode cX1_give 61 = .ok (.bipush 16, 2) := by decide +kernel
theorem dX1_give_63 : decode cX1_give 63 = .ok (.imul, 1) := by decide +kernel
theorem dX1_give_64 : decode cX1_give 64 = .ok (.iload 7, 2) := by decide +kernel
theorem dX1_give_66 : decode cX1_give 66 = .ok (.iadd, 1) := by decide +kernel
theorem dX1_give_67 : decode cX1_give 67 = .ok (.iload 4, 2) := by decide +kernel
theorem dX1_give_69 : decode cX1_give 69 = .ok (.iastore, 1) := by decide +kernel
theorem dX1_give_70 : decode cX1_give 70 = .ok (.iinc 5 1, 3) := by decide +kernel
theorem dX1_give_73 : decode cX1_give 73 = .ok (.iinc 7 1, 3) := by decide +kernel
theorem dX1_give_76 : decode cX1_give 76 = .ok (.goto (-47), 3) := by decide +kernel
theorem dX1_give_79 : decode cX1_give 79 = .ok (.iinc 6 1, 3) := by decide +kernel
theorem dX1_give_82 : decode cX1_give 82 = .ok (.goto (-64), 3) := by decide +kernel
theorem dX1_give_85 : decode cX1_give 85 = .ok (.iload 5, 2) := by decide +kernel
theorem dX1_give_87 : decode cX1_give 87 = .ok (.ireturn, 1) := by decide +kernel
set_option maxRecDepth 20000 in
theorem ggX1_lift_X3_isSquare : GoodIn wsX1_lift wsX3_isSquare := goodIn_r _ [11] (by decide +kernel) (by decide +kernel)
set_option maxRecDepth 20000 in
theorem gX1_lift_X3_isSquare_n57 : GoodIn wsX1_lift (wsX3_isSquare) := ggX1_lift_X3_isSquare
theorem dX1_lift_0 : decode cX1_lift 0 = .ok (.iconst 0, 1) := by decide +kernel
theorem dX1_lift_1 : decode cX1_lift 1 = .ok (.istore 5, 2) := by decide +kernel
theorem dX1_lift_3 : decode cX1_lift 3 = .ok (.iload_n 1, 1) := by decide +kernel
theorem dX1_lift_4 : decode cX1_lift 4 = .ok (.iload_n 2, 1) := by decide +kernel
theorem dX1_lift_5 : decode cX1_lift 5 = .ok (.iload_n 3, 1) := by decide +kernel
theorem dX1_lift_6 : decode cX1_lift 6 = .ok (.invokestatic 57, 3) := by decide +kernel
theorem dX1_lift_9 : decode cX1_lift 9 = .ok (.ifCond .ne 6, 3) := by decide +kernel
theorem dX1_lift_12 : decode cX1_lift 12 = .ok (.iload 5, 2) := by decide +kernel
theorem dX1_lift_14 : decode cX1_lift 14 = .ok (.ireturn, 1) := by decide +kernel
theorem dX1_lift_15 : decode cX1_lift 15 = .ok (.iload_n 2, 1) := by decide +kernel
theorem dX1_lift_16 : decode cX1_lift 16 = .ok (.istore 6, 2) := by decide +kernel
theorem dX1_lift_18 : decode cX1_lift 18 = .ok (.iload 6, 2) := by decide +kernel
theorem dX1_lift_20 : decode cX1_lift 20 = .ok (.iload_n 2, 1) := by decide +kernel
theorem dX1_lift_21 : decode cX1_lift 21 = .ok (.iload_n 3, 1) := by decide +kernel
theorem dX1_lift_22 : decode cX1_lift 22 = .ok (.iadd, 1) := by decide +kernel
theorem dX1_lift_23 : decode cX1_lift 23 = .ok (.if_icmp .ge 75, 3) := by decide +kernel
theorem dX1_lift_26 : decode cX1_lift 26 = .ok (.iload_n 1, 1) := by decide +kernel
theorem dX1_lift_27 : decode cX1_lift 27 = .ok (.istore 7, 2) := by decide +kernel
theorem dX1_lift_29 : decode cX1_lift 29 = .ok (.iload 7, 2) := by decide +kernel
theorem dX1_lift_31 : decode cX1_lift 31 = .ok (.iload_n 1, 1) := by decide +kernel
theorem dX1_lift_32 : decode cX1_lift 32 = .ok (.iload_n 3, 1) := by decide +kernel
theorem dX1_lift_33 : decode cX1_lift 33 = .ok (.iadd, 1) := by decide +kernel
theorem dX1_lift_34 : decode cX1_lift 34 = .ok (.if_icmp .ge 58, 3) := by decide +kernel
theorem dX1_lift_37 : decode cX1_lift 37 = .ok (.iconst 0, 1) := by decide +kernel
theorem dX1_lift_38 : decode cX1_lift 38 = .ok (.bipush 9, 2) := by decide +kernel
theorem dX1_lift_40 : decode cX1_lift 40 = .ok (.aload_n 0, 1) := by decide +kernel
theorem dX1_lift_41 : decode cX1_lift 41 = .ok (.getfield 15, 3) := by decide +kernel
theorem dX1_lift_44 : decode cX1_lift 44 = .ok (.iload 6, 2) := by decide +kernel
theorem dX1_lift_46 : decode cX1_lift 46 = .ok (.bipush 16, 2) := by decide +kernel
theorem dX1_lift_48 : decode cX1_lift 48 = .ok (.imul, 1) := by decide +kernel
theorem dX1_lift_49 : decode cX1_lift 49 = .ok (.iload 7, 2) := by decide +kernel
theorem dX1_lift_51 : decode cX1_lift 51 = .ok (.iadd, 1) := by decide +kernel
theorem dX1_lift_52 : decode cX1_lift 52 = .ok (.iaload, 1) := by decide +kernel
theorem dX1_lift_53 : decode cX1_lift 53 = .ok (.iload 4, 2) := by decide +kernel
theorem dX1_lift_55 : decode cX1_lift 55 = .ok (.iadd, 1) := by decide +kernel
theorem dX1_lift_56 : decode cX1_lift 56 = .ok (.invokestatic 61, 3) := by decide +kernel
theorem dX1_lift_59 : decode cX1_lift 59 = .ok (.invokestatic 67, 3) := by decide +kernel
theorem dX1_lift_62 : decode cX1_lift 62 = .ok (.istore 8, 2) := by decide +kernel
theorem dX1_lift_64 : decode cX1_lift 64 = .ok (.aload_n 0, 1) := by decide +kernel
theorem dX1_lift_65 : decode cX1_lift 65 = .ok (.getfield 15, 3) := by decide +kernel
theorem dX1_lift_68 : decode cX1_lift 68 = .ok (.iload 6, 2) := by decide +kernel
theorem dX1_lift_70 : decode cX1_lift 70 = .ok (.bipush 16, 2) := by decide +kernel
theorem dX1_lift_72 : decode cX1_lift 72 = .ok (.imul, 1) := by decide +kernel
theorem dX1_lift_73 : decode cX1_lift 73 = .ok (.iload 7, 2) := by decide +kernel
theorem dX1_lift_75 : decode cX1_lift 75 = .ok (.iadd, 1) := by decide +kernel
theorem dX1_lift_76 : decode cX1_lift 76 = .ok (.iload 8, 2) := by decide +kernel
theorem dX1_lift_78 : decode cX1_lift 78 = .ok (.iastore, 1) := by decide +kernel
theorem dX1_lift_79 : decode cX1_lift 79 = .ok (.iload 5, 2) := by decide +kernel
theorem dX1_lift_81 : decode cX1_lift 81 = .ok (.iload 8, 2) := by decide +kernel
theorem dX1_lift_83 : decode cX1_lift 83 = .ok (.iadd, 1) := by decide +kernel
theorem dX1_lift_84 : decode cX1_lift 84 = .ok (.istore 5, 2) := by decide +kernel
theorem dX1_lift_86 : decode cX1_lift 86 = .ok (.iinc 7 1, 3) := by decide +kernel
theorem dX1_lift_89 : decode cX1_lift 89 = .ok (.goto (-60), 3) := by decide +kernel
theorem dX1_lift_92 : decode cX1_lift 92 = .ok (.iinc 6 1, 3) := by decide +kernel
theorem dX1_lift_95 : decode cX1_lift 95 = .ok (.goto (-77), 3) := by decide +kernel
theorem dX1_lift_98 : decode cX1_lift 98 = .ok (.iload 5, 2) := by decide +kernel
theorem dX1_lift_100 : decode cX1_lift 100 = .ok (.ireturn, 1) := by decide +kernel
theorem dX1_drown_0 : decode cX1_drown 0 = .ok (.iconst 0, 1) := by decide +kernel
theorem dX1_drown_1 : decode cX1_drown 1 = .ok (.istore_n 2, 1) := by decide +kernel
theorem dX1_drown_2 : decode cX1_drown 2 = .ok (.iconst 0, 1) := by decide +kernel
theorem dX1_drown_3 : decode cX1_drown 3 = .ok (.istore_n 3, 1) := by decide +kernel
theorem dX1_drown_4 : decode cX1_drown 4 = .ok (.iload_n 3, 1) := by decide +kernel
theorem dX1_drown_5 : decode cX1_drown 5 = .ok (.sipush 256, 3) := by decide +kernel
theorem dX1_drown_8 : decode cX1_drown 8 = .ok (.if_icmp .ge 38, 3) := by decide +kernel
theorem dX1_drown_11 : decode cX1_drown 11 = .ok (.aload_n 0, 1) := by decide +kernel
theorem dX1_drown_12 : decode cX1_drown 12 = .ok (.getfield 15, 3) := by decide +kernel
theorem dX1_drown_15 : decode cX1_drown 15 = .ok (.iload_n 3, 1) := by decide +kernel
theorem dX1_drown_16 : decode cX1_drown 16 = .ok (.iaload, 1) := by decide +kernel
theorem dX1_drown_17 : decode cX1_drown 17 = .ok (.iload_n 1, 1) := by decide +kernel
theorem dX1_drown_18 : decode cX1_drown 18 = .ok (.if_icmp .ge 22, 3) := by decide +kernel
theorem dX1_drown_21 : decode cX1_drown 21 = .ok (.aload_n 0, 1) := by decide +kernel
theorem dX1_drown_22 : decode cX1_drown 22 = .ok (.getfield 9, 3) := by decide +kernel
theorem dX1_drown_25 : decode cX1_drown 25 = .ok (.iload_n 3, 1) := by decide +kernel
theorem dX1_drown_26 : decode cX1_drown 26 = .ok (.iaload, 1) := by decide +kernel
theorem dX1_drown_27 : decode cX1_drown 27 = .ok (.ifCond .eq 13, 3) := by decide +kernel
theorem dX1_drown_30 : decode cX1_drown 30 = .ok (.aload_n 0, 1) := by decide +kernel
theorem dX1_drown_31 : decode cX1_drown 31 = .ok (.getfield 9, 3) := by decide +kernel
theorem dX1_drown_34 : decode cX1_drown 34 = .ok (.iload_n 3, 1) := by decide +kernel
theorem dX1_drown_35 : decode cX1_drown 35 = .ok (.iconst 0, 1) := by decide +kernel
theorem dX1_drown_36 : decode cX1_drown 36 = .ok (.iastore, 1) := by decide +kernel
theorem dX1_drown_37 : decode cX1_drown 37 = .ok (.iinc 2 1, 3) := by decide +kernel
theorem dX1_drown_40 : decode cX1_drown 40 = .ok (.iinc 3 1, 3) := by decide +kernel
theorem dX1_drown_43 : decode cX1_drown 43 = .ok (.goto (-39), 3) := by decide +kernel
theorem dX1_drown_46 : decode cX1_drown 46 = .ok (.aload_n 0, 1) := by decide +kernel
theorem dX1_drown_47 : decode cX1_drown 47 = .ok (.dup, 1) := by decide +kernel
theorem dX1_drown_48 : decode cX1_drown 48 = .ok (.getfield 31, 3) := by decide +kernel
theorem dX1_drown_51 : decode cX1_drown 51 = .ok (.iconst 1, 1) := by decide +kernel
theorem dX1_drown_52 : decode cX1_drown 52 = .ok (.iadd, 1) := by decide +kernel
theorem dX1_drown_53 : decode cX1_drown 53 = .ok (.putfield 31, 3) := by decide +kernel
theorem dX1_drown_56 : decode cX1_drown 56 = .ok (.iload_n 2, 1) := by decide +kernel
theorem dX1_drown_57 : decode cX1_drown 57 = .ok (.ireturn, 1) := by decide +kernel
set_option maxRecDepth 20000 in
theorem ggX1_isSquareOfOne_X3_isSquare : GoodIn wsX1_isSquareOfOne wsX3_isSquare := goodIn_r _ [4] (by decide +kernel) (by decide +kernel)
set_option maxRecDepth 20000 in
theorem gX1_isSquareOfOne_X3_isSquare_n57 : GoodIn wsX1_isSquareOfOne (wsX3_isSquare) := ggX1_isSquareOfOne_X3_isSquare
theorem dX1_isSquareOfOne_0 : decode cX1_isSquareOfOne 0 = .ok (.iload_n 1, 1) := by decide +kernel
theorem dX1_isSquareOfOne_1 : decode cX1_isSquareOfOne 1 = .ok (.iload_n 2, 1) := by decide +kernel
theorem dX1_isSquareOfOne_2 : decode cX1_isSquareOfOne 2 = .ok (.iload_n 3, 1) := by decide +kernel
theorem dX1_isSquareOfOne_3 : decode cX1_isSquareOfOne 3 = .ok (.invokestatic 57, 3) := by decide +kernel
theorem dX1_isSquareOfOne_6 : decode cX1_isSquareOfOne 6 = .ok (.ifCond .ne 5, 3) := by decide +kernel
theorem dX1_isSquareOfOne_9 : decode cX1_isSquareOfOne 9 = .ok (.iconst 0, 1) := by decide +kernel
theorem dX1_isSquareOfOne_10 : decode cX1_isSquareOfOne 10 = .ok (.ireturn, 1) := by decide +kernel
theorem dX1_isSquareOfOne_11 : decode cX1_isSquareOfOne 11 = .ok (.aload_n 0, 1) := by decide +kernel
theorem dX1_isSquareOfOne_12 : decode cX1_isSquareOfOne 12 = .ok (.getfield 9, 3) := by decide +kernel
theorem dX1_isSquareOfOne_15 : decode cX1_isSquareOfOne 15 = .ok (.iload_n 2, 1) := by decide +kernel
theorem dX1_isSquareOfOne_16 : decode cX1_isSquareOfOne 16 = .ok (.bipush 16, 2) := by decide +kernel
theorem dX1_isSquareOfOne_18 : decode cX1_isSquareOfOne 18 = .ok (.imul, 1) := by decide +kernel
theorem dX1_isSquareOfOne_19 : decode cX1_isSquareOfOne 19 = .ok (.iload_n 1, 1) := by decide +kernel
theorem dX1_isSquareOfOne_20 : decode cX1_isSquareOfOne 20 = .ok (.iadd, 1) := by decide +kernel
theorem dX1_isSquareOfOne_21 : decode cX1_isSquareOfOne 21 = .ok (.iaload, 1) := by decide +kernel
theorem dX1_isSquareOfOne_22 : decode cX1_isSquareOfOne 22 = .ok (.istore 4, 2) := by decide +kernel
theorem dX1_isSquareOfOne_24 : decode cX1_isSquareOfOne 24 = .ok (.iload_n 2, 1) := by decide +kernel
theorem dX1_isSquareOfOne_25 : decode cX1_isSquareOfOne 25 = .ok (.istore 5, 2) := by decide +kernel
theorem dX1_isSquareOfOne_27 : decode cX1_isSquareOfOne 27 = .ok (.iload 5, 2) := by decide +kernel
theorem dX1_isSquareOfOne_29 : decode cX1_isSquareOfOne 29 = .ok (.iload_n 2, 1) := by decide +kernel
theorem dX1_isSquareOfOne_30 : decode cX1_isSquareOfOne 30 = .ok (.iload_n 3, 1) := by decide +kernel
theorem dX1_isSquareOfOne_31 : decode cX1_isSquareOfOne 31 = .ok (.iadd, 1) := by decide +kernel
theorem dX1_isSquareOfOne_32 : decode cX1_isSquareOfOne 32 = .ok (.if_icmp .ge 46, 3) := by decide +kernel
theorem dX1_isSquareOfOne_35 : decode cX1_isSquareOfOne 35 = .ok (.iload_n 1, 1) := by decide +kernel
theorem dX1_isSquareOfOne_36 : decode cX1_isSquareOfOne 36 = .ok (.istore 6, 2) := by decide +kernel
theorem dX1_isSquareOfOne_38 : decode cX1_isSquareOfOne 38 = .ok (.iload 6, 2) := by decide +kernel
theorem dX1_isSquareOfOne_40 : decode cX1_isSquareOfOne 40 = .ok (.iload_n 1, 1) := by decide +kernel
theorem dX1_isSquareOfOne_41 : decode cX1_isSquareOfOne 41 = .ok (.iload_n 3, 1) := by decide +kernel
theorem dX1_isSquareOfOne_42 : decode cX1_isSquareOfOne 42 = .ok (.iadd, 1) := by decide +kernel
theorem dX1_isSquareOfOne_43 : decode cX1_isSquareOfOne 43 = .ok (.if_icmp .ge 29, 3) := by decide +kernel
theorem dX1_isSquareOfOne_46 : decode cX1_isSquareOfOne 46 = .ok (.aload_n 0, 1) := by decide +kernel
theorem dX1_isSquareOfOne_47 : decode cX1_isSquareOfOne 47 = .ok (.getfield 9, 3) := by decide +kernel
theorem dX1_isSquareOfOne_50 : decode cX1_isSquareOfOne 50 = .ok (.iload 5, 2) := by decide +kernel
theorem dX1_isSquareOfOne_52 : decode cX1_isSquareOfOne 52 = .ok (.bipush 16, 2) := by decide +kernel
theorem dX1_isSquareOfOne_54 : decode cX1_isSquareOfOne 54 = .ok (.imul, 1) := by decide +kernel
theorem dX1_isSquareOfOne_55 : decode cX1_isSquareOfOne 55 = .ok (.iload 6, 2) := by decide +kernel
theorem dX1_isSquareOfOne_57 : decode cX1_isSquareOfOne 57 = .ok (.iadd, 1) := by decide +kernel
theorem dX1_isSquareOfOne_58 : decode cX1_isSquareOfOne 58 = .ok (.iaload, 1) := by decide +kernel
theorem dX1_isSquareOfOne_59 : decode cX1_isSquareOfOne 59 = .ok (.iload 4, 2) := by decide +kernel
theorem dX1_isSquareOfOne_61 : decode cX1_isSquareOfOne 61 = .ok (.if_icmp .eq 5, 3) := by decide +kernel
theorem dX1_isSquareOfOne_64 : decode cX1_isSquareOfOne 64 = .ok (.iconst 0, 1) := by decide +kernel
theorem dX1_isSquareOfOne_65 : decode cX1_isSquareOfOne 65 = .ok (.ireturn, 1) := by decide +kernel
theorem dX1_isSquareOfOne_66 : decode cX1_isSquareOfOne 66 = .ok (.iinc 6 1, 3) := by decide +kernel
theorem dX1_isSquareOfOne_69 : decode cX1_isSquareOfOne 69 = .ok (.goto (-31), 3) := by decide +kernel
theorem dX1_isSquareOfOne_72 : decode cX1_isSquareOfOne 72 = .ok (.iinc 5 1, 3) := by decide +kernel
theorem dX1_isSquareOfOne_75 : decode cX1_isSquareOfOne 75 = .ok (.goto (-48), 3) := by decide +kernel
theorem dX1_isSquareOfOne_78 : decode cX1_isSquareOfOne 78 = .ok (.iconst 1, 1) := by decide +kernel
theorem dX1_isSquareOfOne_79 : decode cX1_isSquareOfOne 79 = .ok (.ireturn, 1) := by decide +kernel
theorem dX1_costOf_0 : decode cX1_costOf 0 = .ok (.aload_n 0, 1) := by decide +kernel
theorem dX1_costOf_1 : decode cX1_costOf 1 = .ok (.getfield 21, 3) := by decide +kernel
theorem dX1_costOf_4 : decode cX1_costOf 4 = .ok (.iload_n 1, 1) := by decide +kernel
theorem dX1_costOf_5 : decode cX1_costOf 5 = .ok (.imul, 1) := by decide +kernel
theorem dX1_costOf_6 : decode cX1_costOf 6 = .ok (.iload_n 1, 1) := by decide +kernel
theorem dX1_costOf_7 : decode cX1_costOf 7 = .ok (.imul, 1) := by decide +kernel
theorem dX1_costOf_8 : decode cX1_costOf 8 = .ok (.ireturn, 1) := by decide +kernel
set_option maxRecDepth 20000 in
theorem ggX1_canSell_X1_isSquareOfOne : GoodIn wsX1_canSell wsX1_isSquareOfOne := goodIn_r _ [5, 6, 7, 8, 9, 28, 29, 30, 31, 32, 33, 34, 35] (by decide +kernel) (by decide +kernel)
set_option maxRecDepth 20000 in
theorem gX1_canSell_X1_isSquareOfOne : GoodIn wsX1_canSell (wsV RX1 70 RX1 yX1_isSquareOfOne wsX1_isSquareOfOne) := goodIn_app (goodIn_of _ (by decide +kernel)) ggX1_canSell_X1_isSquareOfOne
set_option maxRecDepth 20000 in
theorem ggX1_canSell_X1_ownerOf : GoodIn wsX1_canSell wsX1_ownerOf := goodIn_r _ [13, 6, 14, 8, 15, 28, 29, 30, 31, 32, 33, 34, 35] (by decide +kernel) (by decide +kernel)
set_option maxRecDepth 20000 in
theorem gX1_canSell_X1_ownerOf : GoodIn wsX1_canSell (wsV RX1 73 RX1 yX1_ownerOf wsX1_ownerOf) := goodIn_app (goodIn_of _ (by decide +kernel)) ggX1_canSell_X1_ownerOf
set_option maxRecDepth 20000 in
theorem ggX1_canSell_X1_purseOf : GoodIn wsX1_canSell wsX1_purseOf := goodIn_r _ [19, 20, 21, 8, 22, 28, 29, 30, 31, 32, 33, 34, 35] (by decide +kernel) (by decide +kernel)
set_option maxRecDepth 20000 in
theorem gX1_canSell_X1_purseOf : GoodIn wsX1_canSell (wsV RX1 76 RX1 yX1_purseOf wsX1_purseOf) := goodIn_app (goodIn_of _ (by decide +kernel)) ggX1_canSell_X1_purseOf
set_option maxRecDepth 20000 in
theorem ggX1_canSell_X1_costOf : GoodIn wsX1_canSell wsX1_costOf := goodIn_r _ [26, 27, 28, 29, 30, 31, 32, 33, 34, 35] (by decide +kernel) (by decide +kernel)
set_option maxRecDepth 20000 in
theorem gX1_canSell_X1_costOf : GoodIn wsX1_canSell (wsV RX1 80 RX1 yX1_costOf wsX1_costOf) := goodIn_app (goodIn_of _ (by decide +kernel)) ggX1_canSell_X1_costOf
theorem dX1_canSell_0 : decode cX1_canSell 0 = .ok (.aload_n 0, 1) := by decide +kernel
theorem dX1_canSell_1 : decode cX1_canSell 1 = .ok (.iload_n 2, 1) := by decide +kernel
theorem dX1_canSell_2 : decode cX1_canSell 2 = .ok (.iload_n 3, 1) := by decide +kernel
theorem dX1_canSell_3 : decode cX1_canSell 3 = .ok (.iload 4, 2) := by decide +kernel
theorem dX1_canSell_5 : decode cX1_canSell 5 = .ok (.invokevirtual 70, 3) := by decide +kernel
theorem dX1_canSell_8 : decode cX1_canSell 8 = .ok (.ifCond .eq 31, 3) := by decide +kernel
theorem dX1_canSell_11 : decode cX1_canSell 11 = .ok (.aload_n 0, 1) := by decide +kernel
theorem dX1_canSell_12 : decode cX1_canSell 12 = .ok (.iload_n 2, 1) := by decide +kernel
theorem dX1_canSell_13 : decode cX1_canSell 13 = .ok (.iload_n 3, 1) := by decide +kernel
theorem dX1_canSell_14 : decode cX1_canSell 14 = .ok (.invokevirtual 73, 3) := by decide +kernel
theorem dX1_canSell_17 : decode cX1_canSell 17 = .ok (.iload_n 1, 1) := by decide +kernel
theorem dX1_canSell_18 : decode cX1_canSell 18 = .ok (.if_icmp .eq 21, 3) := by decide +kernel
theorem dX1_canSell_21 : decode cX1_canSell 21 = .ok (.aload_n 0, 1) := by decide +kernel
theorem dX1_canSell_22 : decode cX1_canSell 22 = .ok (.iload_n 1, 1) := by decide +kernel
theorem dX1_canSell_23 : decode cX1_canSell 23 = .ok (.invokevirtual 76, 3) := by decide +kernel
theorem dX1_canSell_26 : decode cX1_canSell 26 = .ok (.aload_n 0, 1) := by decide +kernel
theorem dX1_canSell_27 : decode cX1_canSell 27 = .ok (.iload 4, 2) := by decide +kernel
theorem dX1_canSell_29 : decode cX1_canSell 29 = .ok (.invokevirtual 80, 3) := by decide +kernel
theorem dX1_canSell_32 : decode cX1_canSell 32 = .ok (.if_icmp .lt 7, 3) := by decide +kernel
theorem dX1_canSell_35 : decode cX1_canSell 35 = .ok (.iconst 1, 1) := by decide +kernel
theorem dX1_canSell_36 : decode cX1_canSell 36 = .ok (.goto 4, 3) := by decide +kernel
theorem dX1_canSell_39 : decode cX1_canSell 39 = .ok (.iconst 0, 1) := by decide +kernel
theorem dX1_canSell_40 : decode cX1_canSell 40 = .ok (.ireturn, 1) := by decide +kernel
set_option maxRecDepth 20000 in
theorem ggX1_sell_X1_costOf : GoodIn wsX1_sell wsX1_costOf := goodIn_r _ [6, 7, 29, 30, 31, 32, 33, 34, 35, 36] (by decide +kernel) (by decide +kernel)
set_option maxRecDepth 20000 in
theorem gX1_sell_X1_costOf : GoodIn wsX1_sell (wsV RX1 80 RX1 yX1_costOf wsX1_costOf) := goodIn_app (goodIn_of _ (by decide +kernel)) ggX1_sell_X1_costOf
set_option maxRecDepth 20000 in
theorem ggX1_sell_X1_ownerOf : GoodIn wsX1_sell wsX1_ownerOf := goodIn_r _ [11, 12, 13, 14, 15, 29, 30, 31, 32, 33, 34, 35, 36] (by decide +kernel) (by decide +kernel)
set_option maxRecDepth 20000 in
theorem gX1_sell_X1_ownerOf : GoodIn wsX1_sell (wsV RX1 73 RX1 yX1_ownerOf wsX1_ownerOf) := goodIn_app (goodIn_of _ (by decide +kernel)) ggX1_sell_X1_ownerOf
set_option maxRecDepth 20000 in
theorem ggX1_sell_X1_pay : GoodIn wsX1_sell wsX1_pay := goodIn_r _ [19, 20, 21, 14, 22, 29, 30, 31, 32, 33, 34, 35, 36] (by decide +kernel) (by decide +kernel)
set_option maxRecDepth 20000 in
theorem gX1_sell_X1_pay : GoodIn wsX1_sell (wsV RX1 83 RX1 yX1_pay wsX1_pay) := goodIn_app (goodIn_of _ (by decide +kernel)) ggX1_sell_X1_pay
set_option maxRecDepth 20000 in
theorem ggX1_sell_X1_give : GoodIn wsX1_sell wsX1_give := goodIn_r _ [26, 12, 27, 14, 28, 29, 30, 31, 32, 33, 34, 35, 36] (by decide +kernel) (by decide +kernel)
set_option maxRecDepth 20000 in
theorem gX1_sell_X1_give : GoodIn wsX1_sell (wsV RX1 87 RX1 yX1_give wsX1_give) := goodIn_app (goodIn_of _ (by decide +kernel)) ggX1_sell_X1_give
theorem dX1_sell_0 : decode cX1_sell 0 = .ok (.aload_n 0, 1) := by decide +kernel
theorem dX1_sell_1 : decode cX1_sell 1 = .ok (.iload 4, 2) := by decide +kernel
theorem dX1_sell_3 : decode cX1_sell 3 = .ok (.invokevirtual 80, 3) := by decide +kernel
theorem dX1_sell_6 : decode cX1_sell 6 = .ok (.istore 5, 2) := by decide +kernel
theorem dX1_sell_8 : decode cX1_sell 8 = .ok (.aload_n 0, 1) := by decide +kernel
theorem dX1_sell_9 : decode cX1_sell 9 = .ok (.iload_n 1, 1) := by decide +kernel
theorem dX1_sell_10 : decode cX1_sell 10 = .ok (.aload_n 0, 1) := by decide +kernel
theorem dX1_sell_11 : decode cX1_sell 11 = .ok (.iload_n 2, 1) := by decide +kernel
theorem dX1_sell_12 : decode cX1_sell 12 = .ok (.iload_n 3, 1) := by decide +kernel
theorem dX1_sell_13 : decode cX1_sell 13 = .ok (.invokevirtual 73, 3) := by decide +kernel
theorem dX1_sell_16 : decode cX1_sell 16 = .ok (.iload 5, 2) := by decide +kernel
theorem dX1_sell_18 : decode cX1_sell 18 = .ok (.invokevirtual 83, 3) := by decide +kernel
theorem dX1_sell_21 : decode cX1_sell 21 = .ok (.aload_n 0, 1) := by decide +kernel
theorem dX1_sell_22 : decode cX1_sell 22 = .ok (.iload_n 2, 1) := by decide +kernel
theorem dX1_sell_23 : decode cX1_sell 23 = .ok (.iload_n 3, 1) := by decide +kernel
theorem dX1_sell_24 : decode cX1_sell 24 = .ok (.iload 4, 2) := by decide +kernel
theorem dX1_sell_26 : decode cX1_sell 26 = .ok (.iload_n 1, 1) := by decide +kernel
theorem dX1_sell_27 : decode cX1_sell 27 = .ok (.invokevirtual 87, 3) := by decide +kernel
theorem dX1_sell_30 : decode cX1_sell 30 = .ok (.pop, 1) := by decide +kernel
theorem dX1_sell_31 : decode cX1_sell 31 = .ok (.aload_n 0, 1) := by decide +kernel
theorem dX1_sell_32 : decode cX1_sell 32 = .ok (.dup, 1) := by decide +kernel
theorem dX1_sell_33 : decode cX1_sell 33 = .ok (.getfield 28, 3) := by decide +kernel
theorem dX1_sell_36 : decode cX1_sell 36 = .ok (.iconst 1, 1) := by decide +kernel
theorem dX1_sell_37 : decode cX1_sell 37 = .ok (.iadd, 1) := by decide +kernel
theorem dX1_sell_38 : decode cX1_sell 38 = .ok (.putfield 28, 3) := by decide +kernel
theorem dX1_sell_41 : decode cX1_sell 41 = .ok (.iload 5, 2) := by decide +kernel
theorem dX1_sell_43 : decode cX1_sell 43 = .ok (.ireturn, 1) := by decide +kernel
set_option maxRecDepth 20000 in
theorem ggX1_pay_X3_isOwner : GoodIn wsX1_pay wsX3_isOwner := goodIn_r _ [4] (by decide +kernel) (by decide +kernel)
set_option maxRecDepth 20000 in
theorem gX1_pay_X3_isOwner_n53 : GoodIn wsX1_pay (wsX3_isOwner) := ggX1_pay_X3_isOwner
theorem dX1_pay_0 : decode cX1_pay 0 = .ok (.iload_n 1, 1) := by decide +kernel
theorem dX1_pay_1 : decode cX1_pay 1 = .ok (.invokestatic 53, 3) := by decide +kernel
theorem dX1_pay_4 : decode cX1_pay 4 = .ok (.ifCond .eq 30, 3) := by decide +kernel
theorem dX1_pay_7 : decode cX1_pay 7 = .ok (.iload_n 2, 1) := by decide +kernel
theorem dX1_pay_8 : decode cX1_pay 8 = .ok (.invokestatic 53, 3) := by decide +kernel
theorem dX1_pay_11 : decode cX1_pay 11 = .ok (.ifCond .eq 23, 3) := by decide +kernel
theorem dX1_pay_14 : decode cX1_pay 14 = .ok (.aload_n 0, 1) := by decide +kernel
theorem dX1_pay_15 : decode cX1_pay 15 = .ok (.getfield 18, 3) := by decide +kernel
theorem dX1_pay_18 : decode cX1_pay 18 = .ok (.iload_n 1, 1) := by decide +kernel
theorem dX1_pay_19 : decode cX1_pay 19 = .ok (.dup2, 1) := by decide +kernel
theorem dX1_pay_20 : decode cX1_pay 20 = .ok (.iaload, 1) := by decide +kernel
theorem dX1_pay_21 : decode cX1_pay 21 = .ok (.iload_n 3, 1) := by decide +kernel
theorem dX1_pay_22 : decode cX1_pay 22 = .ok (.isub, 1) := by decide +kernel
theorem dX1_pay_23 : decode cX1_pay 23 = .ok (.iastore, 1) := by decide +kernel
theorem dX1_pay_24 : decode cX1_pay 24 = .ok (.aload_n 0, 1) := by decide +kernel
theorem dX1_pay_25 : decode cX1_pay 25 = .ok (.getfield 18, 3) := by decide +kernel
theorem dX1_pay_28 : decode cX1_pay 28 = .ok (.iload_n 2, 1) := by decide +kernel
theorem dX1_pay_29 : decode cX1_pay 29 = .ok (.dup2, 1) := by decide +kernel
theorem dX1_pay_30 : decode cX1_pay 30 = .ok (.iaload, 1) := by decide +kernel
theorem dX1_pay_31 : decode cX1_pay 31 = .ok (.iload_n 3, 1) := by decide +kernel
theorem dX1_pay_32 : decode cX1_pay 32 = .ok (.iadd, 1) := by decide +kernel
theorem dX1_pay_33 : decode cX1_pay 33 = .ok (.iastore, 1) := by decide +kernel
theorem dX1_pay_34 : decode cX1_pay 34 = .ok (.return_, 1) := by decide +kernel
theorem dX1_cellsBelow_0 : decode cX1_cellsBelow 0 = .ok (.iconst 0, 1) := by decide +kernel
theorem dX1_cellsBelow_1 : decode cX1_cellsBelow 1 = .ok (.istore_n 3, 1) := by decide +kernel
theorem dX1_cellsBelow_2 : decode cX1_cellsBelow 2 = .ok (.iconst 0, 1) := by decide +kernel
theorem dX1_cellsBelow_3 : decode cX1_cellsBelow 3 = .ok (.istore 4, 2) := by decide +kernel
theorem dX1_cellsBelow_5 : decode cX1_cellsBelow 5 = .ok (.iload 4, 2) := by decide +kernel
theorem dX1_cellsBelow_7 : decode cX1_cellsBelow 7 = .ok (.sipush 256, 3) := by decide +kernel
theorem dX1_cellsBelow_10 : decode cX1_cellsBelow 10 = .ok (.if_icmp .ge 34, 3) := by decide +kernel
theorem dX1_cellsBelow_13 : decode cX1_cellsBelow 13 = .ok (.aload_n 0, 1) := by decide +kernel
theorem dX1_cellsBelow_14 : decode cX1_cellsBelow 14 = .ok (.getfield 9, 3) := by decide +kernel
theorem dX1_cellsBelow_17 : decode cX1_cellsBelow 17 = .ok (.iload 4, 2) := by decide +kernel
theorem dX1_cellsBelow_19 : decode cX1_cellsBelow 19 = .ok (.iaload, 1) := by decide +kernel
theorem dX1_cellsBelow_20 : decode cX1_cellsBelow 20 = .ok (.iload_n 1, 1) := by decide +kernel
theorem dX1_cellsBelow_21 : decode cX1_cellsBelow 21 = .ok (.if_icmp .ne 17, 3) := by decide +kernel
theorem dX1_cellsBelow_24 : decode cX1_cellsBelow 24 = .ok (.aload_n 0, 1) := by decide +kernel
theorem dX1_cellsBelow_25 : decode cX1_cellsBelow 25 = .ok (.getfield 15, 3) := by decide +kernel
theorem dX1_cellsBelow_28 : decode cX1_cellsBelow 28 = .ok (.iload 4, 2) := by decide +kernel
theorem dX1_cellsBelow_30 : decode cX1_cellsBelow 30 = .ok (.iaload, 1) := by decide +kernel
theorem dX1_cellsBelow_31 : decode cX1_cellsBelow 31 = .ok (.iload_n 2, 1) := by decide +kernel
theorem dX1_cellsBelow_32 : decode cX1_cellsBelow 32 = .ok (.if_icmp .ge 6, 3) := by decide +kernel
theorem dX1_cellsBelow_35 : decode cX1_cellsBelow 35 = .ok (.iinc 3 1, 3) := by decide +kernel
theorem dX1_cellsBelow_38 : decode cX1_cellsBelow 38 = .ok (.iinc 4 1, 3) := by decide +kernel
theorem dX1_cellsBelow_41 : decode cX1_cellsBelow 41 = .ok (.goto (-36), 3) := by decide +kernel
theorem dX1_cellsBelow_44 : decode cX1_cellsBelow 44 = .ok (.iload_n 3, 1) := by decide +kernel
theorem dX1_cellsBelow_45 : decode cX1_cellsBelow 45 = .ok (.ireturn, 1) := by decide +kernel
theorem dX1_sumOfHeights_0 : decode cX1_sumOfHeights 0 = .ok (.iconst 0, 1) := by decide +kernel
theorem dX1_sumOfHeights_1 : decode cX1_sumOfHeights 1 = .ok (.istore_n 1, 1) := by decide +kernel
theorem dX1_sumOfHeights_2 : decode cX1_sumOfHeights 2 = .ok (.iconst 0, 1) := by decide +kernel
theorem dX1_sumOfHeights_3 : decode cX1_sumOfHeights 3 = .ok (.istore_n 2, 1) := by decide +kernel
theorem dX1_sumOfHeights_4 : decode cX1_sumOfHeights 4 = .ok (.iload_n 2, 1) := by decide +kernel
theorem dX1_sumOfHeights_5 : decode cX1_sumOfHeights 5 = .ok (.sipush 256, 3) := by decide +kernel
theorem dX1_sumOfHeights_8 : decode cX1_sumOfHeights 8 = .ok (.if_icmp .ge 18, 3) := by decide +kernel
theorem dX1_sumOfHeights_11 : decode cX1_sumOfHeights 11 = .ok (.iload_n 1, 1) := by decide +kernel
theorem dX1_sumOfHeights_12 : decode cX1_sumOfHeights 12 = .ok (.aload_n 0, 1) := by decide +kernel
theorem dX1_sumOfHeights_13 : decode cX1_sumOfHeights 13 = .ok (.getfield 15, 3) := by decide +kernel
theorem dX1_sumOfHeights_16 : decode cX1_sumOfHeights 16 = .ok (.iload_n 2, 1) := by decide +kernel
theorem dX1_sumOfHeights_17 : decode cX1_sumOfHeights 17 = .ok (.iaload, 1) := by decide +kernel
theorem dX1_sumOfHeights_18 : decode cX1_sumOfHeights 18 = .ok (.iadd, 1) := by decide +kernel
theorem dX1_sumOfHeights_19 : decode cX1_sumOfHeights 19 = .ok (.istore_n 1, 1) := by decide +kernel
theorem dX1_sumOfHeights_20 : decode cX1_sumOfHeights 20 = .ok (.iinc 2 1, 3) := by decide +kernel
theorem dX1_sumOfHeights_23 : decode cX1_sumOfHeights 23 = .ok (.goto (-19), 3) := by decide +kernel
theorem dX1_sumOfHeights_26 : decode cX1_sumOfHeights 26 = .ok (.iload_n 1, 1) := by decide +kernel
theorem dX1_sumOfHeights_27 : decode cX1_sumOfHeights 27 = .ok (.ireturn, 1) := by decide +kernel
set_option maxRecDepth 20000 in
theorem ggX1_sharedFence_X1_ownerOf : GoodIn wsX1_sharedFence wsX1_ownerOf := goodIn_r _ [5, 6, 7, 8, 9, 14, 15, 16, 17, 18, 19, 20, 21] (by decide +kernel) (by decide +kernel)
set_option maxRecDepth 20000 in
theorem gX1_sharedFence_X1_ownerOf : GoodIn wsX1_sharedFence (wsV RX1 73 RX1 yX1_ownerOf wsX1_ownerOf) := goodIn_app (goodIn_of _ (by decide +kernel)) ggX1_sharedFence_X1_ownerOf
set_option maxRecDepth 20000 in
theorem ggX1_sharedFence_X1_sidesTo : GoodIn wsX1_sharedFence wsX1_sidesTo := goodIn_r _ [13, 1, 2, 3, 4, 5, 6, 7, 8, 9, 14, 15, 16, 17, 18, 19, 20, 21] (by decide +kernel) (by decide +kernel)
set_option maxRecDepth 20000 in
theorem gX1_sharedFence_X1_sidesTo : GoodIn wsX1_sharedFence (wsV RX1 91 RX1 yX1_sidesTo wsX1_sidesTo) := goodIn_app (goodIn_of _ (by decide +kernel)) ggX1_sharedFence_X1_sidesTo
theorem dX1_sharedFence_0 : decode cX1_sharedFence 0 = .ok (.iload_n 1, 1) := by decide +kernel
theorem dX1_sharedFence_1 : decode cX1_sharedFence 1 = .ok (.iload_n 2, 1) := by decide +kernel
theorem dX1_sharedFence_2 : decode cX1_sharedFence 2 = .ok (.if_icmp .ne 5, 3) := by decide +kernel
theorem dX1_sharedFence_5 : decode cX1_sharedFence 5 = .ok (.iconst 0, 1) := by decide +kernel
theorem dX1_sharedFence_6 : decode cX1_sharedFence 6 = .ok (.ireturn, 1) := by decide +kernel
theorem dX1_sharedFence_7 : decode cX1_sharedFence 7 = .ok (.iconst 0, 1) := by decide +kernel
theorem dX1_sharedFence_8 : decode cX1_sharedFence 8 = .ok (.istore_n 3, 1) := by decide +kernel
theorem dX1_sharedFence_9 : decode cX1_sharedFence 9 = .ok (.iconst 0, 1) := by decide +kernel
theorem dX1_sharedFence_10 : decode cX1_sharedFence 10 = .ok (.istore 4, 2) := by decide +kernel
theorem dX1_sharedFence_12 : decode cX1_sharedFence 12 = .ok (.iload 4, 2) := by decide +kernel
theorem dX1_sharedFence_14 : decode cX1_sharedFence 14 = .ok (.bipush 16, 2) := by decide +kernel
theorem dX1_sharedFence_16 : decode cX1_sharedFence 16 = .ok (.if_icmp .ge 49, 3) := by decide +kernel
theorem dX1_sharedFence_19 : decode cX1_sharedFence 19 = .ok (.iconst 0, 1) := by decide +kernel
theorem dX1_sharedFence_20 : decode cX1_sharedFence 20 = .ok (.istore 5, 2) := by decide +kernel
theorem dX1_sharedFence_22 : decode cX1_sharedFence 22 = .ok (.iload 5, 2) := by decide +kernel
theorem dX1_sharedFence_24 : decode cX1_sharedFence 24 = .ok (.bipush 16, 2) := by decide +kernel
theorem dX1_sharedFence_26 : decode cX1_sharedFence 26 = .ok (.if_icmp .ge 33, 3) := by decide +kernel
theorem dX1_sharedFence_29 : decode cX1_sharedFence 29 = .ok (.aload_n 0, 1) := by decide +kernel
theorem dX1_sharedFence_30 : decode cX1_sharedFence 30 = .ok (.iload 5, 2) := by decide +kernel
theorem dX1_sharedFence_32 : decode cX1_sharedFence 32 = .ok (.iload 4, 2) := by decide +kernel
theorem dX1_sharedFence_34 : decode cX1_sharedFence 34 = .ok (.invokevirtual 73, 3) := by decide +kernel
theorem dX1_sharedFence_37 : decode cX1_sharedFence 37 = .ok (.iload_n 1, 1) := by decide +kernel
theorem dX1_sharedFence_38 : decode cX1_sharedFence 38 = .ok (.if_icmp .ne 15, 3) := by decide +kernel
theorem dX1_sharedFence_41 : decode cX1_sharedFence 41 = .ok (.iload_n 3, 1) := by decide +kernel
theorem dX1_sharedFence_42 : decode cX1_sharedFence 42 = .ok (.aload_n 0, 1) := by decide +kernel
theorem dX1_sharedFence_43 : decode cX1_sharedFence 43 = .ok (.iload 5, 2) := by decide +kernel
theorem dX1_sharedFence_45 : decode cX1_sharedFence 45 = .ok (.iload 4, 2) := by decide +kernel
theorem dX1_sharedFence_47 : decode cX1_sharedFence 47 = .ok (.iload_n 2, 1) := by decide +kernel
theorem dX1_sharedFence_48 : decode cX1_sharedFence 48 = .ok (.invokevirtual 91, 3) := by decide +kernel
theorem dX1_sharedFence_51 : decode cX1_sharedFence 51 = .ok (.iadd, 1) := by decide +kernel
theorem dX1_sharedFence_52 : decode cX1_sharedFence 52 = .ok (.istore_n 3, 1) := by decide +kernel
theorem dX1_sharedFence_53 : decode cX1_sharedFence 53 = .ok (.iinc 5 1, 3) := by decide +kernel
theorem dX1_sharedFence_56 : decode cX1_sharedFence 56 = .ok (.goto (-34), 3) := by decide +kernel
theorem dX1_sharedFence_59 : decode cX1_sharedFence 59 = .ok (.iinc 4 1, 3) := by decide +kernel
theorem dX1_sharedFence_62 : decode cX1_sharedFence 62 = .ok (.goto (-50), 3) := by decide +kernel
theorem dX1_sharedFence_65 : decode cX1_sharedFence 65 = .ok (.iload_n 3, 1) := by decide +kernel
theorem dX1_sharedFence_66 : decode cX1_sharedFence 66 = .ok (.ireturn, 1) := by decide +kernel
set_option maxRecDepth 20000 in
theorem ggX1_sidesTo_X1_ownerOf : GoodIn wsX1_sidesTo wsX1_ownerOf := goodIn_r _ [5, 6, 7, 8, 9, 10, 11, 12, 13, 14, 15, 16, 17] (by decide +kernel) (by decide +kernel)
set_option maxRecDepth 20000 in
theorem gX1_sidesTo_X1_ownerOf : GoodIn wsX1_sidesTo (wsV RX1 73 RX1 yX1_ownerOf wsX1_ownerOf) := goodIn_app (goodIn_of _ (by decide +kernel)) ggX1_sidesTo_X1_ownerOf
theorem dX1_sidesTo_0 : decode cX1_sidesTo 0 = .ok (.iconst 0, 1) := by decide +kernel
theorem dX1_sidesTo_1 : decode cX1_sidesTo 1 = .ok (.istore 4, 2) := by decide +kernel
theorem dX1_sidesTo_3 : decode cX1_sidesTo 3 = .ok (.iload 4, 2) := by decide +kernel
theorem dX1_sidesTo_5 : decode cX1_sidesTo 5 = .ok (.aload_n 0, 1) := by decide +kernel
theorem dX1_sidesTo_6 : decode cX1_sidesTo 6 = .ok (.iload_n 1, 1) := by decide +kernel
theorem dX1_sidesTo_7 : decode cX1_sidesTo 7 = .ok (.iload_n 2, 1) := by decide +kernel
theorem dX1_sidesTo_8 : decode cX1_sidesTo 8 = .ok (.iconst 1, 1) := by decide +kernel
theorem dX1_sidesTo_9 : decode cX1_sidesTo 9 = .ok (.isub, 1) := by decide +kernel
theorem dX1_sidesTo_10 : decode cX1_sidesTo 10 = .ok (.invokevirtual 73, 3) := by decide +kernel
theorem dX1_sidesTo_13 : decode cX1_sidesTo 13 = .ok (.iload_n 3, 1) := by decide +kernel
theorem dX1_sidesTo_14 : decode cX1_sidesTo 14 = .ok (.if_icmp .ne 7, 3) := by decide +kernel
theorem dX1_sidesTo_17 : decode cX1_sidesTo 17 = .ok (.iconst 1, 1) := by decide +kernel
theorem dX1_sidesTo_18 : decode cX1_sidesTo 18 = .ok (.goto 4, 3) := by decide +kernel
theorem dX1_sidesTo_21 : decode cX1_sidesTo 21 = .ok (.iconst 0, 1) := by decide +kernel
theorem dX1_sidesTo_22 : decode cX1_sidesTo 22 = .ok (.iadd, 1) := by decide +kernel
theorem dX1_sidesTo_23 : decode cX1_sidesTo 23 = .ok (.istore 4, 2) := by decide +kernel
theorem dX1_sidesTo_25 : decode cX1_sidesTo 25 = .ok (.iload 4, 2) := by decide +kernel
theorem dX1_sidesTo_27 : decode cX1_sidesTo 27 = .ok (.aload_n 0, 1) := by decide +kernel
theorem dX1_sidesTo_28 : decode cX1_sidesTo 28 = .ok (.iload_n 1, 1) := by decide +kernel
theorem dX1_sidesTo_29 : decode cX1_sidesTo 29 = .ok (.iload_n 2, 1) := by decide +kernel
theorem dX1_sidesTo_30 : decode cX1_sidesTo 30 = .ok (.iconst 1, 1) := by decide +kernel
theorem dX1_sidesTo_31 : decode cX1_sidesTo 31 = .ok (.iadd, 1) := by decide +kernel
theorem dX1_sidesTo_32 : decode cX1_sidesTo 32 = .ok (.invokevirtual 73, 3) := by decide +kernel
theorem dX1_sidesTo_35 : decode cX1_sidesTo 35 = .ok (.iload_n 3, 1) := by decide +kernel
theorem dX1_sidesTo_36 : decode cX1_sidesTo 36 = .ok (.if_icmp .ne 7, 3) := by decide +kernel
theorem dX1_sidesTo_39 : decode cX1_sidesTo 39 = .ok (.iconst 1, 1) := by decide +kernel
theorem dX1_sidesTo_40 : decode cX1_sidesTo 40 = .ok (.goto 4, 3) := by decide +kernel
theorem dX1_sidesTo_43 : decode cX1_sidesTo 43 = .ok (.iconst 0, 1) := by decide +kernel
theorem dX1_sidesTo_44 : decode cX1_sidesTo 44 = .ok (.iadd, 1) := by decide +kernel
theorem dX1_sidesTo_45 : decode cX1_sidesTo 45 = .ok (.istore 4, 2) := by decide +kernel
theorem dX1_sidesTo_47 : decode cX1_sidesTo 47 = .ok (.iload 4, 2) := by decide +kernel
theorem dX1_sidesTo_49 : decode cX1_sidesTo 49 = .ok (.aload_n 0, 1) := by decide +kernel
theorem dX1_sidesTo_50 : decode cX1_sidesTo 50 = .ok (.iload_n 1, 1) := by decide +kernel
theorem dX1_sidesTo_51 : decode cX1_sidesTo 51 = .ok (.iconst 1, 1) := by decide +kernel
theorem dX1_sidesTo_52 : decode cX1_sidesTo 52 = .ok (.isub, 1) := by decide +kernel
theorem dX1_sidesTo_53 : decode cX1_sidesTo 53 = .ok (.iload_n 2, 1) := by decide +kernel
theorem dX1_sidesTo_54 : decode cX1_sidesTo 54 = .ok (.invokevirtual 73, 3) := by decide +kernel
theorem dX1_sidesTo_57 : decode cX1_sidesTo 57 = .ok (.iload_n 3, 1) := by decide +kernel
theorem dX1_sidesTo_58 : decode cX1_sidesTo 58 = .ok (.if_icmp .ne 7, 3) := by decide +kernel
theorem dX1_sidesTo_61 : decode cX1_sidesTo 61 = .ok (.iconst 1, 1) := by decide +kernel
theorem dX1_sidesTo_62 : decode cX1_sidesTo 62 = .ok (.goto 4, 3) := by decide +kernel
theorem dX1_sidesTo_65 : decode cX1_sidesTo 65 = .ok (.iconst 0, 1) := by decide +kernel
theorem dX1_sidesTo_66 : decode cX1_sidesTo 66 = .ok (.iadd, 1) := by decide +kernel
theorem dX1_sidesTo_67 : decode cX1_sidesTo 67 = .ok (.istore 4, 2) := by decide +kernel
theorem dX1_sidesTo_69 : decode cX1_sidesTo 69 = .ok (.iload 4, 2) := by decide +kernel
theorem dX1_sidesTo_71 : decode cX1_sidesTo 71 = .ok (.aload_n 0, 1) := by decide +kernel
theorem dX1_sidesTo_72 : decode cX1_sidesTo 72 = .ok (.iload_n 1, 1) := by decide +kernel
theorem dX1_sidesTo_73 : decode cX1_sidesTo 73 = .ok (.iconst 1, 1) := by decide +kernel
theorem dX1_sidesTo_74 : decode cX1_sidesTo 74 = .ok (.iadd, 1) := by decide +kernel
theorem dX1_sidesTo_75 : decode cX1_sidesTo 75 = .ok (.iload_n 2, 1) := by decide +kernel
theorem dX1_sidesTo_76 : decode cX1_sidesTo 76 = .ok (.invokevirtual 73, 3) := by decide +kernel
theorem dX1_sidesTo_79 : decode cX1_sidesTo 79 = .ok (.iload_n 3, 1) := by decide +kernel
theorem dX1_sidesTo_80 : decode cX1_sidesTo 80 = .ok (.if_icmp .ne 7, 3) := by decide +kernel
theorem dX1_sidesTo_83 : decode cX1_sidesTo 83 = .ok (.iconst 1, 1) := by decide +kernel
theorem dX1_sidesTo_84 : decode cX1_sidesTo 84 = .ok (.goto 4, 3) := by decide +kernel
theorem dX1_sidesTo_87 : decode cX1_sidesTo 87 = .ok (.iconst 0, 1) := by decide +kernel
theorem dX1_sidesTo_88 : decode cX1_sidesTo 88 = .ok (.iadd, 1) := by decide +kernel
theorem dX1_sidesTo_89 : decode cX1_sidesTo 89 = .ok (.istore 4, 2) := by decide +kernel
theorem dX1_sidesTo_91 : decode cX1_sidesTo 91 = .ok (.iload 4, 2) := by decide +kernel
theorem dX1_sidesTo_93 : decode cX1_sidesTo 93 = .ok (.ireturn, 1) := by decide +kernel
