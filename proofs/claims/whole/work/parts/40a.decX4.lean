theorem dX4_init_0 : decode cX4_init 0 = .ok (.aload_n 0, 1) := by decide +kernel
theorem dX4_init_1 : decode cX4_init 1 = .ok (.invokespecial 1, 3) := by decide +kernel
theorem dX4_init_4 : decode cX4_init 4 = .ok (.aload_n 0, 1) := by decide +kernel
theorem dX4_init_5 : decode cX4_init 5 = .ok (.sipush 525, 3) := by decide +kernel
theorem dX4_init_8 : decode cX4_init 8 = .ok (.newarray .int, 2) := by decide +kernel
theorem dX4_init_10 : decode cX4_init 10 = .ok (.putfield 7, 3) := by decide +kernel
theorem dX4_init_13 : decode cX4_init 13 = .ok (.aload_n 0, 1) := by decide +kernel
theorem dX4_init_14 : decode cX4_init 14 = .ok (.sipush 3150, 3) := by decide +kernel
theorem dX4_init_17 : decode cX4_init 17 = .ok (.newarray .int, 2) := by decide +kernel
theorem dX4_init_19 : decode cX4_init 19 = .ok (.putfield 13, 3) := by decide +kernel
theorem dX4_init_22 : decode cX4_init 22 = .ok (.aload_n 0, 1) := by decide +kernel
theorem dX4_init_23 : decode cX4_init 23 = .ok (.sipush 1050, 3) := by decide +kernel
theorem dX4_init_26 : decode cX4_init 26 = .ok (.newarray .int, 2) := by decide +kernel
theorem dX4_init_28 : decode cX4_init 28 = .ok (.putfield 16, 3) := by decide +kernel
theorem dX4_init_31 : decode cX4_init 31 = .ok (.aload_n 0, 1) := by decide +kernel
theorem dX4_init_32 : decode cX4_init 32 = .ok (.iconst 2, 1) := by decide +kernel
theorem dX4_init_33 : decode cX4_init 33 = .ok (.newarray .int, 2) := by decide +kernel
theorem dX4_init_35 : decode cX4_init 35 = .ok (.putfield 19, 3) := by decide +kernel
theorem dX4_init_38 : decode cX4_init 38 = .ok (.aload_n 0, 1) := by decide +kernel
theorem dX4_init_39 : decode cX4_init 39 = .ok (.sipush 525, 3) := by decide +kernel
theorem dX4_init_42 : decode cX4_init 42 = .ok (.newarray .int, 2) := by decide +kernel
theorem dX4_init_44 : decode cX4_init 44 = .ok (.putfield 22, 3) := by decide +kernel
theorem dX4_init_47 : decode cX4_init 47 = .ok (.aload_n 0, 1) := by decide +kernel
theorem dX4_init_48 : decode cX4_init 48 = .ok (.sipush 256, 3) := by decide +kernel
theorem dX4_init_51 : decode cX4_init 51 = .ok (.newarray .int, 2) := by decide +kernel
theorem dX4_init_53 : decode cX4_init 53 = .ok (.putfield 25, 3) := by decide +kernel
theorem dX4_init_56 : decode cX4_init 56 = .ok (.aload_n 0, 1) := by decide +kernel
theorem dX4_init_57 : decode cX4_init 57 = .ok (.sipush 256, 3) := by decide +kernel
theorem dX4_init_60 : decode cX4_init 60 = .ok (.newarray .int, 2) := by decide +kernel
theorem dX4_init_62 : decode cX4_init 62 = .ok (.putfield 28, 3) := by decide +kernel
theorem dX4_init_65 : decode cX4_init 65 = .ok (.aload_n 0, 1) := by decide +kernel
theorem dX4_init_66 : decode cX4_init 66 = .ok (.bipush 60, 2) := by decide +kernel
theorem dX4_init_68 : decode cX4_init 68 = .ok (.newarray .int, 2) := by decide +kernel
theorem dX4_init_70 : decode cX4_init 70 = .ok (.putfield 31, 3) := by decide +kernel
theorem dX4_init_73 : decode cX4_init 73 = .ok (.aload_n 0, 1) := by decide +kernel
theorem dX4_init_74 : decode cX4_init 74 = .ok (.sipush 186, 3) := by decide +kernel
theorem dX4_init_77 : decode cX4_init 77 = .ok (.newarray .int, 2) := by decide +kernel
theorem dX4_init_79 : decode cX4_init 79 = .ok (.putfield 34, 3) := by decide +kernel
theorem dX4_init_82 : decode cX4_init 82 = .ok (.iconst 0, 1) := by decide +kernel
theorem dX4_init_83 : decode cX4_init 83 = .ok (.istore_n 1, 1) := by decide +kernel
theorem dX4_init_84 : decode cX4_init 84 = .ok (.iload_n 1, 1) := by decide +kernel
theorem dX4_init_85 : decode cX4_init 85 = .ok (.sipush 256, 3) := by decide +kernel
theorem dX4_init_88 : decode cX4_init 88 = .ok (.if_icmp .ge 20, 3) := by decide +kernel
theorem dX4_init_91 : decode cX4_init 91 = .ok (.aload_n 0, 1) := by decide +kernel
theorem dX4_init_92 : decode cX4_init 92 = .ok (.getfield 7, 3) := by decide +kernel
theorem dX4_init_95 : decode cX4_init 95 = .ok (.sipush 256, 3) := by decide +kernel
theorem dX4_init_98 : decode cX4_init 98 = .ok (.iload_n 1, 1) := by decide +kernel
theorem dX4_init_99 : decode cX4_init 99 = .ok (.iadd, 1) := by decide +kernel
theorem dX4_init_100 : decode cX4_init 100 = .ok (.iconst 5, 1) := by decide +kernel
theorem dX4_init_101 : decode cX4_init 101 = .ok (.iastore, 1) := by decide +kernel
theorem dX4_init_102 : decode cX4_init 102 = .ok (.iinc 1 1, 3) := by decide +kernel
theorem dX4_init_105 : decode cX4_init 105 = .ok (.goto (-21), 3) := by decide +kernel
theorem dX4_init_108 : decode cX4_init 108 = .ok (.iconst 1, 1) := by decide +kernel
theorem dX4_init_109 : decode cX4_init 109 = .ok (.istore_n 1, 1) := by decide +kernel
theorem dX4_init_110 : decode cX4_init 110 = .ok (.iload_n 1, 1) := by decide +kernel
theorem dX4_init_111 : decode cX4_init 111 = .ok (.bipush 8, 2) := by decide +kernel
theorem dX4_init_113 : decode cX4_init 113 = .ok (.if_icmp .ge 21, 3) := by decide +kernel
theorem dX4_init_116 : decode cX4_init 116 = .ok (.aload_n 0, 1) := by decide +kernel
theorem dX4_init_117 : decode cX4_init 117 = .ok (.getfield 7, 3) := by decide +kernel
theorem dX4_init_120 : decode cX4_init 120 = .ok (.sipush 512, 3) := by decide +kernel
theorem dX4_init_123 : decode cX4_init 123 = .ok (.iload_n 1, 1) := by decide +kernel
theorem dX4_init_124 : decode cX4_init 124 = .ok (.iadd, 1) := by decide +kernel
theorem dX4_init_125 : decode cX4_init 125 = .ok (.bipush 100, 2) := by decide +kernel
theorem dX4_init_127 : decode cX4_init 127 = .ok (.iastore, 1) := by decide +kernel
theorem dX4_init_128 : decode cX4_init 128 = .ok (.iinc 1 1, 3) := by decide +kernel
theorem dX4_init_131 : decode cX4_init 131 = .ok (.goto (-21), 3) := by decide +kernel
theorem dX4_init_134 : decode cX4_init 134 = .ok (.aload_n 0, 1) := by decide +kernel
theorem dX4_init_135 : decode cX4_init 135 = .ok (.getfield 7, 3) := by decide +kernel
theorem dX4_init_138 : decode cX4_init 138 = .ok (.sipush 520, 3) := by decide +kernel
theorem dX4_init_141 : decode cX4_init 141 = .ok (.iconst 2, 1) := by decide +kernel
theorem dX4_init_142 : decode cX4_init 142 = .ok (.iastore, 1) := by decide +kernel
theorem dX4_init_143 : decode cX4_init 143 = .ok (.aload_n 0, 1) := by decide +kernel
theorem dX4_init_144 : decode cX4_init 144 = .ok (.getfield 7, 3) := by decide +kernel
theorem dX4_init_147 : decode cX4_init 147 = .ok (.sipush 521, 3) := by decide +kernel
theorem dX4_init_150 : decode cX4_init 150 = .ok (.iconst 1, 1) := by decide +kernel
theorem dX4_init_151 : decode cX4_init 151 = .ok (.iastore, 1) := by decide +kernel
theorem dX4_init_152 : decode cX4_init 152 = .ok (.return_, 1) := by decide +kernel
theorem dX4_thrown_0 : decode cX4_thrown 0 = .ok (.aload_n 0, 1) := by decide +kernel
theorem dX4_thrown_1 : decode cX4_thrown 1 = .ok (.getfield 37, 3) := by decide +kernel
theorem dX4_thrown_4 : decode cX4_thrown 4 = .ok (.ireturn, 1) := by decide +kernel
theorem dX4_refuses_0 : decode cX4_refuses 0 = .ok (.aload_n 0, 1) := by decide +kernel
theorem dX4_refuses_1 : decode cX4_refuses 1 = .ok (.iload_n 1, 1) := by decide +kernel
theorem dX4_refuses_2 : decode cX4_refuses 2 = .ok (.putfield 37, 3) := by decide +kernel
theorem dX4_refuses_5 : decode cX4_refuses 5 = .ok (.iconst 0, 1) := by decide +kernel
theorem dX4_refuses_6 : decode cX4_refuses 6 = .ok (.ireturn, 1) := by decide +kernel
theorem dX4_in_0 : decode cX4_in 0 = .ok (.iload_n 0, 1) := by decide +kernel
theorem dX4_in_1 : decode cX4_in 1 = .ok (.iload_n 1, 1) := by decide +kernel
theorem dX4_in_2 : decode cX4_in 2 = .ok (.if_icmp .lt 12, 3) := by decide +kernel
theorem dX4_in_5 : decode cX4_in 5 = .ok (.iload_n 0, 1) := by decide +kernel
theorem dX4_in_6 : decode cX4_in 6 = .ok (.iload_n 2, 1) := by decide +kernel
theorem dX4_in_7 : decode cX4_in 7 = .ok (.if_icmp .gt 7, 3) := by decide +kernel
theorem dX4_in_10 : decode cX4_in 10 = .ok (.iconst 1, 1) := by decide +kernel
theorem dX4_in_11 : decode cX4_in 11 = .ok (.goto 4, 3) := by decide +kernel
theorem dX4_in_14 : decode cX4_in 14 = .ok (.iconst 0, 1) := by decide +kernel
theorem dX4_in_15 : decode cX4_in 15 = .ok (.ireturn, 1) := by decide +kernel
theorem dX4_lays_0 : decode cX4_lays 0 = .ok (.iconst 0, 1) := by decide +kernel
theorem dX4_lays_1 : decode cX4_lays 1 = .ok (.istore 4, 2) := by decide +kernel
theorem dX4_lays_3 : decode cX4_lays 3 = .ok (.iload 4, 2) := by decide +kernel
theorem dX4_lays_5 : decode cX4_lays 5 = .ok (.sipush 525, 3) := by decide +kernel
theorem dX4_lays_8 : decode cX4_lays 8 = .ok (.if_icmp .ge 21, 3) := by decide +kernel
theorem dX4_lays_11 : decode cX4_lays 11 = .ok (.aload_n 2, 1) := by decide +kernel
theorem dX4_lays_12 : decode cX4_lays 12 = .ok (.iload_n 3, 1) := by decide +kernel
theorem dX4_lays_13 : decode cX4_lays 13 = .ok (.iload 4, 2) := by decide +kernel
theorem dX4_lays_15 : decode cX4_lays 15 = .ok (.iadd, 1) := by decide +kernel
theorem dX4_lays_16 : decode cX4_lays 16 = .ok (.aload_n 0, 1) := by decide +kernel
theorem dX4_lays_17 : decode cX4_lays 17 = .ok (.iload_n 1, 1) := by decide +kernel
theorem dX4_lays_18 : decode cX4_lays 18 = .ok (.iload 4, 2) := by decide +kernel
theorem dX4_lays_20 : decode cX4_lays 20 = .ok (.iadd, 1) := by decide +kernel
theorem dX4_lays_21 : decode cX4_lays 21 = .ok (.iaload, 1) := by decide +kernel
theorem dX4_lays_22 : decode cX4_lays 22 = .ok (.iastore, 1) := by decide +kernel
theorem dX4_lays_23 : decode cX4_lays 23 = .ok (.iinc 4 1, 3) := by decide +kernel
theorem dX4_lays_26 : decode cX4_lays 26 = .ok (.goto (-23), 3) := by decide +kernel
theorem dX4_lays_29 : decode cX4_lays 29 = .ok (.return_, 1) := by decide +kernel
set_option maxRecDepth 20000 in
theorem ggX4_saves_X4_lays : GoodIn wsX4_saves wsX4_lays := goodIn_r _ [7] (by decide +kernel) (by decide +kernel)
set_option maxRecDepth 20000 in
theorem gX4_saves_X4_lays : GoodIn wsX4_saves (va_wsS RX4 44 yX4_lays wsX4_lays) := goodIn_app (goodIn_of _ (by decide +kernel)) ggX4_saves_X4_lays
theorem dX4_saves_0 : decode cX4_saves 0 = .ok (.aload_n 0, 1) := by decide +kernel
theorem dX4_saves_1 : decode cX4_saves 1 = .ok (.getfield 41, 3) := by decide +kernel
theorem dX4_saves_4 : decode cX4_saves 4 = .ok (.bipush 6, 2) := by decide +kernel
theorem dX4_saves_6 : decode cX4_saves 6 = .ok (.if_icmp .ne 44, 3) := by decide +kernel
theorem dX4_saves_9 : decode cX4_saves 9 = .ok (.iconst 0, 1) := by decide +kernel
theorem dX4_saves_10 : decode cX4_saves 10 = .ok (.istore_n 1, 1) := by decide +kernel
theorem dX4_saves_11 : decode cX4_saves 11 = .ok (.iload_n 1, 1) := by decide +kernel
theorem dX4_saves_12 : decode cX4_saves 12 = .ok (.sipush 2625, 3) := by decide +kernel
theorem dX4_saves_15 : decode cX4_saves 15 = .ok (.if_icmp .ge 25, 3) := by decide +kernel
theorem dX4_saves_18 : decode cX4_saves 18 = .ok (.aload_n 0, 1) := by decide +kernel
theorem dX4_saves_19 : decode cX4_saves 19 = .ok (.getfield 13, 3) := by decide +kernel
theorem dX4_saves_22 : decode cX4_saves 22 = .ok (.iload_n 1, 1) := by decide +kernel
theorem dX4_saves_23 : decode cX4_saves 23 = .ok (.aload_n 0, 1) := by decide +kernel
theorem dX4_saves_24 : decode cX4_saves 24 = .ok (.getfield 13, 3) := by decide +kernel
theorem dX4_saves_27 : decode cX4_saves 27 = .ok (.iload_n 1, 1) := by decide +kernel
theorem dX4_saves_28 : decode cX4_saves 28 = .ok (.sipush 525, 3) := by decide +kernel
theorem dX4_saves_31 : decode cX4_saves 31 = .ok (.iadd, 1) := by decide +kernel
theorem dX4_saves_32 : decode cX4_saves 32 = .ok (.iaload, 1) := by decide +kernel
theorem dX4_saves_33 : decode cX4_saves 33 = .ok (.iastore, 1) := by decide +kernel
theorem dX4_saves_34 : decode cX4_saves 34 = .ok (.iinc 1 1, 3) := by decide +kernel
theorem dX4_saves_37 : decode cX4_saves 37 = .ok (.goto (-26), 3) := by decide +kernel
theorem dX4_saves_40 : decode cX4_saves 40 = .ok (.aload_n 0, 1) := by decide +kernel
theorem dX4_saves_41 : decode cX4_saves 41 = .ok (.dup, 1) := by decide +kernel
theorem dX4_saves_42 : decode cX4_saves 42 = .ok (.getfield 41, 3) := by decide +kernel
theorem dX4_saves_45 : decode cX4_saves 45 = .ok (.iconst 1, 1) := by decide +kernel
theorem dX4_saves_46 : decode cX4_saves 46 = .ok (.isub, 1) := by decide +kernel
theorem dX4_saves_47 : decode cX4_saves 47 = .ok (.putfield 41, 3) := by decide +kernel
theorem dX4_saves_50 : decode cX4_saves 50 = .ok (.aload_n 0, 1) := by decide +kernel
theorem dX4_saves_51 : decode cX4_saves 51 = .ok (.getfield 7, 3) := by decide +kernel
theorem dX4_saves_54 : decode cX4_saves 54 = .ok (.iconst 0, 1) := by decide +kernel
theorem dX4_saves_55 : decode cX4_saves 55 = .ok (.aload_n 0, 1) := by decide +kernel
theorem dX4_saves_56 : decode cX4_saves 56 = .ok (.getfield 13, 3) := by decide +kernel
theorem dX4_saves_59 : decode cX4_saves 59 = .ok (.sipush 525, 3) := by decide +kernel
theorem dX4_saves_62 : decode cX4_saves 62 = .ok (.aload_n 0, 1) := by decide +kernel
theorem dX4_saves_63 : decode cX4_saves 63 = .ok (.getfield 41, 3) := by decide +kernel
theorem dX4_saves_66 : decode cX4_saves 66 = .ok (.imul, 1) := by decide +kernel
theorem dX4_saves_67 : decode cX4_saves 67 = .ok (.invokestatic 44, 3) := by decide +kernel
theorem dX4_saves_70 : decode cX4_saves 70 = .ok (.aload_n 0, 1) := by decide +kernel
theorem dX4_saves_71 : decode cX4_saves 71 = .ok (.dup, 1) := by decide +kernel
theorem dX4_saves_72 : decode cX4_saves 72 = .ok (.getfield 41, 3) := by decide +kernel
theorem dX4_saves_75 : decode cX4_saves 75 = .ok (.iconst 1, 1) := by decide +kernel
theorem dX4_saves_76 : decode cX4_saves 76 = .ok (.iadd, 1) := by decide +kernel
theorem dX4_saves_77 : decode cX4_saves 77 = .ok (.putfield 41, 3) := by decide +kernel
theorem dX4_saves_80 : decode cX4_saves 80 = .ok (.return_, 1) := by decide +kernel
set_option maxRecDepth 20000 in
theorem ggX4_isCell_X4_in : GoodIn wsX4_isCell wsX4_in := goodIn_r _ [4] (by decide +kernel) (by decide +kernel)
set_option maxRecDepth 20000 in
theorem gX4_isCell_X4_in : GoodIn wsX4_isCell (va_wsS RX4 48 yX4_in wsX4_in) := goodIn_app (goodIn_of _ (by decide +kernel)) ggX4_isCell_X4_in
theorem dX4_isCell_0 : decode cX4_isCell 0 = .ok (.iload_n 0, 1) := by decide +kernel
theorem dX4_isCell_1 : decode cX4_isCell 1 = .ok (.iconst 0, 1) := by decide +kernel
theorem dX4_isCell_2 : decode cX4_isCell 2 = .ok (.bipush 15, 2) := by decide +kernel
theorem dX4_isCell_4 : decode cX4_isCell 4 = .ok (.invokestatic 48, 3) := by decide +kernel
theorem dX4_isCell_7 : decode cX4_isCell 7 = .ok (.ifCond .eq 17, 3) := by decide +kernel
theorem dX4_isCell_10 : decode cX4_isCell 10 = .ok (.iload_n 1, 1) := by decide +kernel
theorem dX4_isCell_11 : decode cX4_isCell 11 = .ok (.iconst 0, 1) := by decide +kernel
theorem dX4_isCell_12 : decode cX4_isCell 12 = .ok (.bipush 15, 2) := by decide +kernel
theorem dX4_isCell_14 : decode cX4_isCell 14 = .ok (.invokestatic 48, 3) := by decide +kernel
theorem dX4_isCell_17 : decode cX4_isCell 17 = .ok (.ifCond .eq 7, 3) := by decide +kernel
theorem dX4_isCell_20 : decode cX4_isCell 20 = .ok (.iconst 1, 1) := by decide +kernel
theorem dX4_isCell_21 : decode cX4_isCell 21 = .ok (.goto 4, 3) := by decide +kernel
theorem dX4_isCell_24 : decode cX4_isCell 24 = .ok (.iconst 0, 1) := by decide +kernel
theorem dX4_isCell_25 : decode cX4_isCell 25 = .ok (.ireturn, 1) := by decide +kernel
set_option maxRecDepth 20000 in
theorem ggX4_isOwner_X4_in : GoodIn wsX4_isOwner wsX4_in := goodIn_r _ [4] (by decide +kernel) (by decide +kernel)
set_option maxRecDepth 20000 in
theorem gX4_isOwner_X4_in : GoodIn wsX4_isOwner (va_wsS RX4 48 yX4_in wsX4_in) := goodIn_app (goodIn_of _ (by decide +kernel)) ggX4_isOwner_X4_in
theorem dX4_isOwner_0 : decode cX4_isOwner 0 = .ok (.iload_n 0, 1) := by decide +kernel
theorem dX4_isOwner_1 : decode cX4_isOwner 1 = .ok (.iconst 0, 1) := by decide +kernel
theorem dX4_isOwner_2 : decode cX4_isOwner 2 = .ok (.bipush 7, 2) := by decide +kernel
theorem dX4_isOwner_4 : decode cX4_isOwner 4 = .ok (.invokestatic 48, 3) := by decide +kernel
theorem dX4_isOwner_7 : decode cX4_isOwner 7 = .ok (.ireturn, 1) := by decide +kernel
set_option maxRecDepth 20000 in
theorem ggX4_isPerson_X4_in : GoodIn wsX4_isPerson wsX4_in := goodIn_r _ [4] (by decide +kernel) (by decide +kernel)
set_option maxRecDepth 20000 in
theorem gX4_isPerson_X4_in : GoodIn wsX4_isPerson (va_wsS RX4 48 yX4_in wsX4_in) := goodIn_app (goodIn_of _ (by decide +kernel)) ggX4_isPerson_X4_in
theorem dX4_isPerson_0 : decode cX4_isPerson 0 = .ok (.iload_n 0, 1) := by decide +kernel
theorem dX4_isPerson_1 : decode cX4_isPerson 1 = .ok (.iconst 1, 1) := by decide +kernel
theorem dX4_isPerson_2 : decode cX4_isPerson 2 = .ok (.bipush 7, 2) := by decide +kernel
theorem dX4_isPerson_4 : decode cX4_isPerson 4 = .ok (.invokestatic 48, 3) := by decide +kernel
theorem dX4_isPerson_7 : decode cX4_isPerson 7 = .ok (.ireturn, 1) := by decide +kernel
theorem dX4_isSquare_0 : decode cX4_isSquare 0 = .ok (.iload_n 2, 1) := by decide +kernel
theorem dX4_isSquare_1 : decode cX4_isSquare 1 = .ok (.iconst 1, 1) := by decide +kernel
theorem dX4_isSquare_2 : decode cX4_isSquare 2 = .ok (.if_icmp .eq 25, 3) := by decide +kernel
theorem dX4_isSquare_5 : decode cX4_isSquare 5 = .ok (.iload_n 2, 1) := by decide +kernel
theorem dX4_isSquare_6 : decode cX4_isSquare 6 = .ok (.iconst 2, 1) := by decide +kernel
theorem dX4_isSquare_7 : decode cX4_isSquare 7 = .ok (.if_icmp .eq 20, 3) := by decide +kernel
theorem dX4_isSquare_10 : decode cX4_isSquare 10 = .ok (.iload_n 2, 1) := by decide +kernel
theorem dX4_isSquare_11 : decode cX4_isSquare 11 = .ok (.iconst 4, 1) := by decide +kernel
theorem dX4_isSquare_12 : decode cX4_isSquare 12 = .ok (.if_icmp .eq 15, 3) := by decide +kernel
theorem dX4_isSquare_15 : decode cX4_isSquare 15 = .ok (.iload_n 2, 1) := by decide +kernel
theorem dX4_isSquare_16 : decode cX4_isSquare 16 = .ok (.bipush 8, 2) := by decide +kernel
theorem dX4_isSquare_18 : decode cX4_isSquare 18 = .ok (.if_icmp .eq 9, 3) := by decide +kernel
theorem dX4_isSquare_21 : decode cX4_isSquare 21 = .ok (.iload_n 2, 1) := by decide +kernel
theorem dX4_isSquare_22 : decode cX4_isSquare 22 = .ok (.bipush 16, 2) := by decide +kernel
theorem dX4_isSquare_24 : decode cX4_isSquare 24 = .ok (.if_icmp .ne 7, 3) := by decide +kernel
theorem dX4_isSquare_27 : decode cX4_isSquare 27 = .ok (.iconst 1, 1) := by decide +kernel
theorem dX4_isSquare_28 : decode cX4_isSquare 28 = .ok (.goto 4, 3) := by decide +kernel
theorem dX4_isSquare_31 : decode cX4_isSquare 31 = .ok (.iconst 0, 1) := by decide +kernel
theorem dX4_isSquare_32 : decode cX4_isSquare 32 = .ok (.istore_n 3, 1) := by decide +kernel
theorem dX4_isSquare_33 : decode cX4_isSquare 33 = .ok (.iload_n 3, 1) := by decide +kernel
theorem dX4_isSquare_34 : decode cX4_isSquare 34 = .ok (.ifCond .eq 19, 3) := by decide +kernel
theorem dX4_isSquare_37 : decode cX4_isSquare 37 = .ok (.iload_n 0, 1) := by decide +kernel
theorem dX4_isSquare_38 : decode cX4_isSquare 38 = .ok (.iload_n 2, 1) := by decide +kernel
theorem dX4_isSquare_39 : decode cX4_isSquare 39 = .ok (.irem, 1) := by decide +kernel
theorem dX4_isSquare_40 : decode cX4_isSquare 40 = .ok (.ifCond .ne 13, 3) := by decide +kernel
theorem dX4_isSquare_43 : decode cX4_isSquare 43 = .ok (.iload_n 1, 1) := by decide +kernel
theorem dX4_isSquare_44 : decode cX4_isSquare 44 = .ok (.iload_n 2, 1) := by decide +kernel
theorem dX4_isSquare_45 : decode cX4_isSquare 45 = .ok (.irem, 1) := by decide +kernel
theorem dX4_isSquare_46 : decode cX4_isSquare 46 = .ok (.ifCond .ne 7, 3) := by decide +kernel
theorem dX4_isSquare_49 : decode cX4_isSquare 49 = .ok (.iconst 1, 1) := by decide +kernel
theorem dX4_isSquare_50 : decode cX4_isSquare 50 = .ok (.goto 4, 3) := by decide +kernel
theorem dX4_isSquare_53 : decode cX4_isSquare 53 = .ok (.iconst 0, 1) := by decide +kernel
theorem dX4_isSquare_54 : decode cX4_isSquare 54 = .ok (.ireturn, 1) := by decide +kernel
theorem dX4_cellOf_0 : decode cX4_cellOf 0 = .ok (.iconst 0, 1) := by decide +kernel
theorem dX4_cellOf_1 : decode cX4_cellOf 1 = .ok (.istore_n 1, 1) := by decide +kernel
theorem dX4_cellOf_2 : decode cX4_cellOf 2 = .ok (.iconst 0, 1) := by decide +kernel
theorem dX4_cellOf_3 : decode cX4_cellOf 3 = .ok (.istore_n 2, 1) := by decide +kernel
theorem dX4_cellOf_4 : decode cX4_cellOf 4 = .ok (.iconst 0, 1) := by decide +kernel
theorem dX4_cellOf_5 : decode cX4_cellOf 5 = .ok (.istore_n 3, 1) := by decide +kernel
theorem dX4_cellOf_6 : decode cX4_cellOf 6 = .ok (.iload_n 3, 1) := by decide +kernel
theorem dX4_cellOf_7 : decode cX4_cellOf 7 = .ok (.iconst 4, 1) := by decide +kernel
theorem dX4_cellOf_8 : decode cX4_cellOf 8 = .ok (.if_icmp .ge 35, 3) := by decide +kernel
theorem dX4_cellOf_11 : decode cX4_cellOf 11 = .ok (.iload_n 1, 1) := by decide +kernel
theorem dX4_cellOf_12 : decode cX4_cellOf 12 = .ok (.iload_n 0, 1) := by decide +kernel
theorem dX4_cellOf_13 : decode cX4_cellOf 13 = .ok (.iconst 2, 1) := by decide +kernel
theorem dX4_cellOf_14 : decode cX4_cellOf 14 = .ok (.iload_n 3, 1) := by decide +kernel
theorem dX4_cellOf_15 : decode cX4_cellOf 15 = .ok (.imul, 1) := by decide +kernel
theorem dX4_cellOf_16 : decode cX4_cellOf 16 = .ok (.ishr, 1) := by decide +kernel
theorem dX4_cellOf_17 : decode cX4_cellOf 17 = .ok (.iconst 1, 1) := by decide +kernel
theorem dX4_cellOf_18 : decode cX4_cellOf 18 = .ok (.iand, 1) := by decide +kernel
theorem dX4_cellOf_19 : decode cX4_cellOf 19 = .ok (.iload_n 3, 1) := by decide +kernel
theorem dX4_cellOf_20 : decode cX4_cellOf 20 = .ok (.ishl, 1) := by decide +kernel
theorem dX4_cellOf_21 : decode cX4_cellOf 21 = .ok (.iadd, 1) := by decide +kernel
theorem dX4_cellOf_22 : decode cX4_cellOf 22 = .ok (.istore_n 1, 1) := by decide +kernel
theorem dX4_cellOf_23 : decode cX4_cellOf 23 = .ok (.iload_n 2, 1) := by decide +kernel
theorem dX4_cellOf_24 : decode cX4_cellOf 24 = .ok (.iload_n 0, 1) := by decide +kernel
theorem dX4_cellOf_25 : decode cX4_cellOf 25 = .ok (.iconst 2, 1) := by decide +kernel
theorem dX4_cellOf_26 : decode cX4_cellOf 26 = .ok (.iload_n 3, 1) := by decide +kernel
theorem dX4_cellOf_27 : decode cX4_cellOf 27 = .ok (.imul, 1) := by decide +kernel
theorem dX4_cellOf_28 : decode cX4_cellOf 28 = .ok (.iconst 1, 1) := by decide +kernel
theorem dX4_cellOf_29 : decode cX4_cellOf 29 = .ok (.iadd, 1) := by decide +kernel
theorem dX4_cellOf_30 : decode cX4_cellOf 30 = .ok (.ishr, 1) := by decide +kernel
theorem dX4_cellOf_31 : decode cX4_cellOf 31 = .ok (.iconst 1, 1) := by decide +kernel
theorem dX4_cellOf_32 : decode cX4_cellOf 32 = .ok (.iand, 1) := by decide +kernel
theorem dX4_cellOf_33 : decode cX4_cellOf 33 = .ok (.iload_n 3, 1) := by decide +kernel
theorem dX4_cellOf_34 : decode cX4_cellOf 34 = .ok (.ishl, 1) := by decide +kernel
theorem dX4_cellOf_35 : decode cX4_cellOf 35 = .ok (.iadd, 1) := by decide +kernel
theorem dX4_cellOf_36 : decode cX4_cellOf 36 = .ok (.istore_n 2, 1) := by decide +kernel
theorem dX4_cellOf_37 : decode cX4_cellOf 37 = .ok (.iinc 3 1, 3) := by decide +kernel
theorem dX4_cellOf_40 : decode cX4_cellOf 40 = .ok (.goto (-34), 3) := by decide +kernel
theorem dX4_cellOf_43 : decode cX4_cellOf 43 = .ok (.bipush 16, 2) := by decide +kernel
theorem dX4_cellOf_45 : decode cX4_cellOf 45 = .ok (.iload_n 2, 1) := by decide +kernel
theorem dX4_cellOf_46 : decode cX4_cellOf 46 = .ok (.imul, 1) := by decide +kernel
theorem dX4_cellOf_47 : decode cX4_cellOf 47 = .ok (.iload_n 1, 1) := by decide +kernel
theorem dX4_cellOf_48 : decode cX4_cellOf 48 = .ok (.iadd, 1) := by decide +kernel
theorem dX4_cellOf_49 : decode cX4_cellOf 49 = .ok (.ireturn, 1) := by decide +kernel
theorem dX4_isOne_0 : decode cX4_isOne 0 = .ok (.iconst 1, 1) := by decide +kernel
theorem dX4_isOne_1 : decode cX4_isOne 1 = .ok (.istore_n 3, 1) := by decide +kernel
theorem dX4_isOne_2 : decode cX4_isOne 2 = .ok (.iconst 0, 1) := by decide +kernel
theorem dX4_isOne_3 : decode cX4_isOne 3 = .ok (.istore 4, 2) := by decide +kernel
theorem dX4_isOne_5 : decode cX4_isOne 5 = .ok (.iload 4, 2) := by decide +kernel
theorem dX4_isOne_7 : decode cX4_isOne 7 = .ok (.iload_n 2, 1) := by decide +kernel
theorem dX4_isOne_8 : decode cX4_isOne 8 = .ok (.iload_n 2, 1) := by decide +kernel
theorem dX4_isOne_9 : decode cX4_isOne 9 = .ok (.imul, 1) := by decide +kernel
theorem dX4_isOne_10 : decode cX4_isOne 10 = .ok (.if_icmp .ge 47, 3) := by decide +kernel
theorem dX4_isOne_13 : decode cX4_isOne 13 = .ok (.iload_n 3, 1) := by decide +kernel
theorem dX4_isOne_14 : decode cX4_isOne 14 = .ok (.ifCond .eq 35, 3) := by decide +kernel
theorem dX4_isOne_17 : decode cX4_isOne 17 = .ok (.aload_n 0, 1) := by decide +kernel
theorem dX4_isOne_18 : decode cX4_isOne 18 = .ok (.getfield 7, 3) := by decide +kernel
theorem dX4_isOne_21 : decode cX4_isOne 21 = .ok (.iload_n 1, 1) := by decide +kernel
theorem dX4_isOne_22 : decode cX4_isOne 22 = .ok (.bipush 16, 2) := by decide +kernel
theorem dX4_isOne_24 : decode cX4_isOne 24 = .ok (.iload 4, 2) := by decide +kernel
theorem dX4_isOne_26 : decode cX4_isOne 26 = .ok (.iload_n 2, 1) := by decide +kernel
theorem dX4_isOne_27 : decode cX4_isOne 27 = .ok (.idiv, 1) := by decide +kernel
theorem dX4_isOne_28 : decode cX4_isOne 28 = .ok (.imul, 1) := by decide +kernel
theorem dX4_isOne_29 : decode cX4_isOne 29 = .ok (.iadd, 1) := by decide +kernel
theorem dX4_isOne_30 : decode cX4_isOne 30 = .ok (.iload 4, 2) := by decide +kernel
theorem dX4_isOne_32 : decode cX4_isOne 32 = .ok (.iload_n 2, 1) := by decide +kernel
theorem dX4_isOne_33 : decode cX4_isOne 33 = .ok (.irem, 1) := by decide +kernel
theorem dX4_isOne_34 : decode cX4_isOne 34 = .ok (.iadd, 1) := by decide +kernel
theorem dX4_isOne_35 : decode cX4_isOne 35 = .ok (.iaload, 1) := by decide +kernel
theorem dX4_isOne_36 : decode cX4_isOne 36 = .ok (.aload_n 0, 1) := by decide +kernel
theorem dX4_isOne_37 : decode cX4_isOne 37 = .ok (.getfield 7, 3) := by decide +kernel
theorem dX4_isOne_40 : decode cX4_isOne 40 = .ok (.iload_n 1, 1) := by decide +kernel
theorem dX4_isOne_41 : decode cX4_isOne 41 = .ok (.iaload, 1) := by decide +kernel
theorem dX4_isOne_42 : decode cX4_isOne 42 = .ok (.if_icmp .ne 7, 3) := by decide +kernel
theorem dX4_isOne_45 : decode cX4_isOne 45 = .ok (.iconst 1, 1) := by decide +kernel
theorem dX4_isOne_46 : decode cX4_isOne 46 = .ok (.goto 4, 3) := by decide +kernel
theorem dX4_isOne_49 : decode cX4_isOne 49 = .ok (.iconst 0, 1) := by decide +kernel
theorem dX4_isOne_50 : decode cX4_isOne 50 = .ok (.istore_n 3, 1) := by decide +kernel
theorem dX4_isOne_51 : decode cX4_isOne 51 = .ok (.iinc 4 1, 3) := by decide +kernel
theorem dX4_isOne_54 : decode cX4_isOne 54 = .ok (.goto (-49), 3) := by decide +kernel
theorem dX4_isOne_57 : decode cX4_isOne 57 = .ok (.iload_n 3, 1) := by decide +kernel
theorem dX4_isOne_58 : decode cX4_isOne 58 = .ok (.ireturn, 1) := by decide +kernel
set_option maxRecDepth 20000 in
theorem ggX4_finds_X4_cellOf : GoodIn wsX4_finds wsX4_cellOf := goodIn_r _ [7] (by decide +kernel) (by decide +kernel)
set_option maxRecDepth 20000 in
theorem gX4_finds_X4_cellOf : GoodIn wsX4_finds (va_wsS RX4 55 yX4_cellOf wsX4_cellOf) := goodIn_app (goodIn_of _ (by decide +kernel)) ggX4_finds_X4_cellOf
set_option maxRecDepth 20000 in
theorem ggX4_finds_X4_isOne : GoodIn wsX4_finds wsX4_isOne := goodIn_r _ [11, 12, 13, 14, 15, 16, 17, 18, 19, 20, 21, 22, 23, 24, 25, 26, 27] (by decide +kernel) (by decide +kernel)
set_option maxRecDepth 20000 in
theorem gX4_finds_X4_isOne : GoodIn wsX4_finds (wsV RX4 59 RX4 yX4_isOne wsX4_isOne) := goodIn_app (goodIn_of _ (by decide +kernel)) ggX4_finds_X4_isOne
theorem dX4_finds_0 : decode cX4_finds 0 = .ok (.aload_n 0, 1) := by decide +kernel
theorem dX4_finds_1 : decode cX4_finds 1 = .ok (.iconst 0, 1) := by decide +kernel
theorem dX4_finds_2 : decode cX4_finds 2 = .ok (.putfield 52, 3) := by decide +kernel
theorem dX4_finds_5 : decode cX4_finds 5 = .ok (.iconst 0, 1) := by decide +kernel
theorem dX4_finds_6 : decode cX4_finds 6 = .ok (.istore_n 1, 1) := by decide +kernel
theorem dX4_finds_7 : decode cX4_finds 7 = .ok (.iload_n 1, 1) := by decide +kernel
theorem dX4_finds_8 : decode cX4_finds 8 = .ok (.sipush 256, 3) := by decide +kernel
theorem dX4_finds_11 : decode cX4_finds 11 = .ok (.if_icmp .ge 75, 3) := by decide +kernel
theorem dX4_finds_14 : decode cX4_finds 14 = .ok (.bipush 16, 2) := by decide +kernel
theorem dX4_finds_16 : decode cX4_finds 16 = .ok (.istore_n 2, 1) := by decide +kernel
theorem dX4_finds_17 : decode cX4_finds 17 = .ok (.iload_n 1, 1) := by decide +kernel
theorem dX4_finds_18 : decode cX4_finds 18 = .ok (.iload_n 2, 1) := by decide +kernel
theorem dX4_finds_19 : decode cX4_finds 19 = .ok (.iload_n 2, 1) := by decide +kernel
theorem dX4_finds_20 : decode cX4_finds 20 = .ok (.imul, 1) := by decide +kernel
theorem dX4_finds_21 : decode cX4_finds 21 = .ok (.irem, 1) := by decide +kernel
theorem dX4_finds_22 : decode cX4_finds 22 = .ok (.ifCond .ne 15, 3) := by decide +kernel
theorem dX4_finds_25 : decode cX4_finds 25 = .ok (.aload_n 0, 1) := by decide +kernel
theorem dX4_finds_26 : decode cX4_finds 26 = .ok (.iload_n 1, 1) := by decide +kernel
theorem dX4_finds_27 : decode cX4_finds 27 = .ok (.invokestatic 55, 3) := by decide +kernel
theorem dX4_finds_30 : decode cX4_finds 30 = .ok (.iload_n 2, 1) := by decide +kernel
theorem dX4_finds_31 : decode cX4_finds 31 = .ok (.invokevirtual 59, 3) := by decide +kernel
theorem dX4_finds_34 : decode cX4_finds 34 = .ok (.ifCond .ne 10, 3) := by decide +kernel
theorem dX4_finds_37 : decode cX4_finds 37 = .ok (.iload_n 2, 1) := by decide +kernel
theorem dX4_finds_38 : decode cX4_finds 38 = .ok (.iconst 2, 1) := by decide +kernel
theorem dX4_finds_39 : decode cX4_finds 39 = .ok (.idiv, 1) := by decide +kernel
theorem dX4_finds_40 : decode cX4_finds 40 = .ok (.istore_n 2, 1) := by decide +kernel
theorem dX4_finds_41 : decode cX4_finds 41 = .ok (.goto (-24), 3) := by decide +kernel
theorem dX4_finds_44 : decode cX4_finds 44 = .ok (.aload_n 0, 1) := by decide +kernel
theorem dX4_finds_45 : decode cX4_finds 45 = .ok (.getfield 25, 3) := by decide +kernel
theorem dX4_finds_48 : decode cX4_finds 48 = .ok (.aload_n 0, 1) := by decide +kernel
theorem dX4_finds_49 : decode cX4_finds 49 = .ok (.getfield 52, 3) := by decide +kernel
theorem dX4_finds_52 : decode cX4_finds 52 = .ok (.iload_n 1, 1) := by decide +kernel
theorem dX4_finds_53 : decode cX4_finds 53 = .ok (.invokestatic 55, 3) := by decide +kernel
theorem dX4_finds_56 : decode cX4_finds 56 = .ok (.iastore, 1) := by decide +kernel
theorem dX4_finds_57 : decode cX4_finds 57 = .ok (.aload_n 0, 1) := by decide +kernel
theorem dX4_finds_58 : decode cX4_finds 58 = .ok (.getfield 28, 3) := by decide +kernel
theorem dX4_finds_61 : decode cX4_finds 61 = .ok (.aload_n 0, 1) := by decide +kernel
theorem dX4_finds_62 : decode cX4_finds 62 = .ok (.getfield 52, 3) := by decide +kernel
theorem dX4_finds_65 : decode cX4_finds 65 = .ok (.iload_n 2, 1) := by decide +kernel
theorem dX4_finds_66 : decode cX4_finds 66 = .ok (.iastore, 1) := by decide +kernel
theorem dX4_finds_67 : decode cX4_finds 67 = .ok (.aload_n 0, 1) := by decide +kernel
theorem dX4_finds_68 : decode cX4_finds 68 = .ok (.dup, 1) := by decide +kernel
theorem dX4_finds_69 : decode cX4_finds 69 = .ok (.getfield 52, 3) := by decide +kernel
theorem dX4_finds_72 : decode cX4_finds 72 = .ok (.iconst 1, 1) := by decide +kernel
theorem dX4_finds_73 : decode cX4_finds 73 = .ok (.iadd, 1) := by decide +kernel
theorem dX4_finds_74 : decode cX4_finds 74 = .ok (.putfield 52, 3) := by decide +kernel
theorem dX4_finds_77 : decode cX4_finds 77 = .ok (.iload_n 1, 1) := by decide +kernel
theorem dX4_finds_78 : decode cX4_finds 78 = .ok (.iload_n 2, 1) := by decide +kernel
theorem dX4_finds_79 : decode cX4_finds 79 = .ok (.iload_n 2, 1) := by decide +kernel
theorem dX4_finds_80 : decode cX4_finds 80 = .ok (.imul, 1) := by decide +kernel
theorem dX4_finds_81 : decode cX4_finds 81 = .ok (.iadd, 1) := by decide +kernel
theorem dX4_finds_82 : decode cX4_finds 82 = .ok (.istore_n 1, 1) := by decide +kernel
theorem dX4_finds_83 : decode cX4_finds 83 = .ok (.goto (-76), 3) := by decide +kernel
theorem dX4_finds_86 : decode cX4_finds 86 = .ok (.return_, 1) := by decide +kernel
theorem dX4_ownerOf_0 : decode cX4_ownerOf 0 = .ok (.aload_n 0, 1) := by decide +kernel
theorem dX4_ownerOf_1 : decode cX4_ownerOf 1 = .ok (.getfield 7, 3) := by decide +kernel
theorem dX4_ownerOf_4 : decode cX4_ownerOf 4 = .ok (.aload_n 0, 1) := by decide +kernel
theorem dX4_ownerOf_5 : decode cX4_ownerOf 5 = .ok (.getfield 25, 3) := by decide +kernel
theorem dX4_ownerOf_8 : decode cX4_ownerOf 8 = .ok (.iload_n 1, 1) := by decide +kernel
theorem dX4_ownerOf_9 : decode cX4_ownerOf 9 = .ok (.iaload, 1) := by decide +kernel
theorem dX4_ownerOf_10 : decode cX4_ownerOf 10 = .ok (.iaload, 1) := by decide +kernel
theorem dX4_ownerOf_11 : decode cX4_ownerOf 11 = .ok (.ireturn, 1) := by decide +kernel
set_option maxRecDepth 20000 in
theorem ggX4_plotAt_X4_finds : GoodIn wsX4_plotAt wsX4_finds := goodIn_r _ [8, 1, 2, 3, 9, 10, 7, 11, 12, 13, 14, 15, 16, 20, 21, 22, 23, 24, 25, 26, 27, 28, 29, 30, 31, 32, 33, 34] (by decide +kernel) (by decide +kernel)
set_option maxRecDepth 20000 in
theorem gX4_plotAt_X4_finds : GoodIn wsX4_plotAt (wsV RX4 63 RX4 yX4_finds wsX4_finds) := goodIn_app (goodIn_of _ (by decide +kernel)) ggX4_plotAt_X4_finds
set_option maxRecDepth 20000 in
theorem ggX4_plotAt_X4_in : GoodIn wsX4_plotAt wsX4_in := goodIn_r _ [19] (by decide +kernel) (by decide +kernel)
set_option maxRecDepth 20000 in
theorem gX4_plotAt_X4_in : GoodIn wsX4_plotAt (va_wsS RX4 48 yX4_in wsX4_in) := goodIn_app (goodIn_of _ (by decide +kernel)) ggX4_plotAt_X4_in
theorem dX4_plotAt_0 : decode cX4_plotAt 0 = .ok (.aload_n 0, 1) := by decide +kernel
theorem dX4_plotAt_1 : decode cX4_plotAt 1 = .ok (.invokevirtual 63, 3) := by decide +kernel
theorem dX4_plotAt_4 : decode cX4_plotAt 4 = .ok (.iconst 0, 1) := by decide +kernel
theorem dX4_plotAt_5 : decode cX4_plotAt 5 = .ok (.istore_n 3, 1) := by decide +kernel
theorem dX4_plotAt_6 : decode cX4_plotAt 6 = .ok (.iconst 0, 1) := by decide +kernel
theorem dX4_plotAt_7 : decode cX4_plotAt 7 = .ok (.istore 4, 2) := by decide +kernel
theorem dX4_plotAt_9 : decode cX4_plotAt 9 = .ok (.iload 4, 2) := by decide +kernel
theorem dX4_plotAt_11 : decode cX4_plotAt 11 = .ok (.aload_n 0, 1) := by decide +kernel
theorem dX4_plotAt_12 : decode cX4_plotAt 12 = .ok (.getfield 52, 3) := by decide +kernel
theorem dX4_plotAt_15 : decode cX4_plotAt 15 = .ok (.if_icmp .ge 82, 3) := by decide +kernel
theorem dX4_plotAt_18 : decode cX4_plotAt 18 = .ok (.aload_n 0, 1) := by decide +kernel
theorem dX4_plotAt_19 : decode cX4_plotAt 19 = .ok (.getfield 25, 3) := by decide +kernel
theorem dX4_plotAt_22 : decode cX4_plotAt 22 = .ok (.iload 4, 2) := by decide +kernel
theorem dX4_plotAt_24 : decode cX4_plotAt 24 = .ok (.iaload, 1) := by decide +kernel
theorem dX4_plotAt_25 : decode cX4_plotAt 25 = .ok (.bipush 16, 2) := by decide +kernel
theorem dX4_plotAt_27 : decode cX4_plotAt 27 = .ok (.irem, 1) := by decide +kernel
theorem dX4_plotAt_28 : decode cX4_plotAt 28 = .ok (.istore 5, 2) := by decide +kernel
theorem dX4_plotAt_30 : decode cX4_plotAt 30 = .ok (.aload_n 0, 1) := by decide +kernel
theorem dX4_plotAt_31 : decode cX4_plotAt 31 = .ok (.getfield 25, 3) := by decide +kernel
theorem dX4_plotAt_34 : decode cX4_plotAt 34 = .ok (.iload 4, 2) := by decide +kernel
theorem dX4_plotAt_36 : decode cX4_plotAt 36 = .ok (.iaload, 1) := by decide +kernel
theorem dX4_plotAt_37 : decode cX4_plotAt 37 = .ok (.bipush 16, 2) := by decide +kernel
theorem dX4_plotAt_39 : decode cX4_plotAt 39 = .ok (.idiv, 1) := by decide +kernel
theorem dX4_plotAt_40 : decode cX4_plotAt 40 = .ok (.istore 6, 2) := by decide +kernel
theorem dX4_plotAt_42 : decode cX4_plotAt 42 = .ok (.iload_n 1, 1) := by decide +kernel
theorem dX4_plotAt_43 : decode cX4_plotAt 43 = .ok (.iload 5, 2) := by decide +kernel
theorem dX4_plotAt_45 : decode cX4_plotAt 45 = .ok (.iload 5, 2) := by decide +kernel
theorem dX4_plotAt_47 : decode cX4_plotAt 47 = .ok (.aload_n 0, 1) := by decide +kernel
theorem dX4_plotAt_48 : decode cX4_plotAt 48 = .ok (.getfield 28, 3) := by decide +kernel
theorem dX4_plotAt_51 : decode cX4_plotAt 51 = .ok (.iload 4, 2) := by decide +kernel
theorem dX4_plotAt_53 : decode cX4_plotAt 53 = .ok (.iaload, 1) := by decide +kernel
theorem dX4_plotAt_54 : decode cX4_plotAt 54 = .ok (.iadd, 1) := by decide +kernel
theorem dX4_plotAt_55 : decode cX4_plotAt 55 = .ok (.iconst 1, 1) := by decide +kernel
theorem dX4_plotAt_56 : decode cX4_plotAt 56 = .ok (.isub, 1) := by decide +kernel
theorem dX4_plotAt_57 : decode cX4_plotAt 57 = .ok (.invokestatic 48, 3) := by decide +kernel
theorem dX4_plotAt_60 : decode cX4_plotAt 60 = .ok (.ifCond .eq 29, 3) := by decide +kernel
theorem dX4_plotAt_63 : decode cX4_plotAt 63 = .ok (.iload_n 2, 1) := by decide +kernel
theorem dX4_plotAt_64 : decode cX4_plotAt 64 = .ok (.iload 6, 2) := by decide +kernel
theorem dX4_plotAt_66 : decode cX4_plotAt 66 = .ok (.iload 6, 2) := by decide +kernel
theorem dX4_plotAt_68 : decode cX4_plotAt 68 = .ok (.aload_n 0, 1) := by decide +kernel
theorem dX4_plotAt_69 : decode cX4_plotAt 69 = .ok (.getfield 28, 3) := by decide +kernel
theorem dX4_plotAt_72 : decode cX4_plotAt 72 = .ok (.iload 4, 2) := by decide +kernel
theorem dX4_plotAt_74 : decode cX4_plotAt 74 = .ok (.iaload, 1) := by decide +kernel
theorem dX4_plotAt_75 : decode cX4_plotAt 75 = .ok (.iadd, 1) := by decide +kernel
theorem dX4_plotAt_76 : decode cX4_plotAt 76 = .ok (.iconst 1, 1) := by decide +kernel
theorem dX4_plotAt_77 : decode cX4_plotAt 77 = .ok (.isub, 1) := by decide +kernel
theorem dX4_plotAt_78 : decode cX4_plotAt 78 = .ok (.invokestatic 48, 3) := by decide +kernel
theorem dX4_plotAt_81 : decode cX4_plotAt 81 = .ok (.ifCond .eq 8, 3) := by decide +kernel
theorem dX4_plotAt_84 : decode cX4_plotAt 84 = .ok (.iload 4, 2) := by decide +kernel
theorem dX4_plotAt_86 : decode cX4_plotAt 86 = .ok (.goto 4, 3) := by decide +kernel
theorem dX4_plotAt_89 : decode cX4_plotAt 89 = .ok (.iload_n 3, 1) := by decide +kernel
theorem dX4_plotAt_90 : decode cX4_plotAt 90 = .ok (.istore_n 3, 1) := by decide +kernel
theorem dX4_plotAt_91 : decode cX4_plotAt 91 = .ok (.iinc 4 1, 3) := by decide +kernel
theorem dX4_plotAt_94 : decode cX4_plotAt 94 = .ok (.goto (-85), 3) := by decide +kernel
theorem dX4_plotAt_97 : decode cX4_plotAt 97 = .ok (.iload_n 3, 1) := by decide +kernel
theorem dX4_plotAt_98 : decode cX4_plotAt 98 = .ok (.ireturn, 1) := by decide +kernel
set_option maxRecDepth 20000 in
theorem ggX4_plotsFor_X4_finds : GoodIn wsX4_plotsFor wsX4_finds := goodIn_r _ [6, 1, 7, 8, 9, 10, 5, 11, 12, 13, 14, 15, 16, 21, 22, 23, 24, 25, 26, 27, 28, 29, 30, 31, 32, 33, 34, 35] (by decide +kernel) (by decide +kernel)
set_option maxRecDepth 20000 in
theorem gX4_plotsFor_X4_finds : GoodIn wsX4_plotsFor (wsV RX4 63 RX4 yX4_finds wsX4_finds) := goodIn_app (goodIn_of _ (by decide +kernel)) ggX4_plotsFor_X4_finds
set_option maxRecDepth 20000 in
theorem ggX4_plotsFor_X4_ownerOf : GoodIn wsX4_plotsFor wsX4_ownerOf := goodIn_r _ [20, 16, 7, 21, 22, 23, 24, 25, 26, 27, 28, 29, 30, 31, 32, 33, 34, 35] (by decide +kernel) (by decide +kernel)
set_option maxRecDepth 20000 in
theorem gX4_plotsFor_X4_ownerOf : GoodIn wsX4_plotsFor (wsV RX4 66 RX4 yX4_ownerOf wsX4_ownerOf) := goodIn_app (goodIn_of _ (by decide +kernel)) ggX4_plotsFor_X4_ownerOf
theorem dX4_plotsFor_0 : decode cX4_plotsFor 0 = .ok (.aload_n 0, 1) := by decide +kernel
theorem dX4_plotsFor_1 : decode cX4_plotsFor 1 = .ok (.invokevirtual 63, 3) := by decide +kernel
theorem dX4_plotsFor_4 : decode cX4_plotsFor 4 = .ok (.iconst 0, 1) := by decide +kernel
theorem dX4_plotsFor_5 : decode cX4_plotsFor 5 = .ok (.istore_n 2, 1) := by decide +kernel
theorem dX4_plotsFor_6 : decode cX4_plotsFor 6 = .ok (.iconst 0, 1) := by decide +kernel
theorem dX4_plotsFor_7 : decode cX4_plotsFor 7 = .ok (.istore_n 3, 1) := by decide +kernel
theorem dX4_plotsFor_8 : decode cX4_plotsFor 8 = .ok (.iload_n 3, 1) := by decide +kernel
theorem dX4_plotsFor_9 : decode cX4_plotsFor 9 = .ok (.aload_n 0, 1) := by decide +kernel
theorem dX4_plotsFor_10 : decode cX4_plotsFor 10 = .ok (.getfield 52, 3) := by decide +kernel
theorem dX4_plotsFor_13 : decode cX4_plotsFor 13 = .ok (.if_icmp .ge 26, 3) := by decide +kernel
theorem dX4_plotsFor_16 : decode cX4_plotsFor 16 = .ok (.iload_n 2, 1) := by decide +kernel
theorem dX4_plotsFor_17 : decode cX4_plotsFor 17 = .ok (.aload_n 0, 1) := by decide +kernel
theorem dX4_plotsFor_18 : decode cX4_plotsFor 18 = .ok (.iload_n 3, 1) := by decide +kernel
theorem dX4_plotsFor_19 : decode cX4_plotsFor 19 = .ok (.invokevirtual 66, 3) := by decide +kernel
theorem dX4_plotsFor_22 : decode cX4_plotsFor 22 = .ok (.iload_n 1, 1) := by decide +kernel
theorem dX4_plotsFor_23 : decode cX4_plotsFor 23 = .ok (.if_icmp .ne 7, 3) := by decide +kernel
theorem dX4_plotsFor_26 : decode cX4_plotsFor 26 = .ok (.iconst 1, 1) := by decide +kernel
theorem dX4_plotsFor_27 : decode cX4_plotsFor 27 = .ok (.goto 4, 3) := by decide +kernel
theorem dX4_plotsFor_30 : decode cX4_plotsFor 30 = .ok (.iconst 0, 1) := by decide +kernel
theorem dX4_plotsFor_31 : decode cX4_plotsFor 31 = .ok (.iadd, 1) := by decide +kernel
theorem dX4_plotsFor_32 : decode cX4_plotsFor 32 = .ok (.istore_n 2, 1) := by decide +kernel
theorem dX4_plotsFor_33 : decode cX4_plotsFor 33 = .ok (.iinc 3 1, 3) := by decide +kernel
theorem dX4_plotsFor_36 : decode cX4_plotsFor 36 = .ok (.goto (-28), 3) := by decide +kernel
theorem dX4_plotsFor_39 : decode cX4_plotsFor 39 = .ok (.iload_n 2, 1) := by decide +kernel
theorem dX4_plotsFor_40 : decode cX4_plotsFor 40 = .ok (.ireturn, 1) := by decide +kernel
theorem dX4_becomes_0 : decode cX4_becomes 0 = .ok (.iconst 0, 1) := by decide +kernel
theorem dX4_becomes_1 : decode cX4_becomes 1 = .ok (.istore 4, 2) := by decide +kernel
theorem dX4_becomes_3 : decode cX4_becomes 3 = .ok (.iconst 0, 1) := by decide +kernel
theorem dX4_becomes_4 : decode cX4_becomes 4 = .ok (.istore 5, 2) := by decide +kernel
theorem dX4_becomes_6 : decode cX4_becomes 6 = .ok (.iload 5, 2) := by decide +kernel
theorem dX4_becomes_8 : decode cX4_becomes 8 = .ok (.iload_n 2, 1) := by decide +kernel
theorem dX4_becomes_9 : decode cX4_becomes 9 = .ok (.iload_n 2, 1) := by decide +kernel
theorem dX4_becomes_10 : decode cX4_becomes 10 = .ok (.imul, 1) := by decide +kernel
theorem dX4_becomes_11 : decode cX4_becomes 11 = .ok (.if_icmp .ge 54, 3) := by decide +kernel
theorem dX4_becomes_14 : decode cX4_becomes 14 = .ok (.iload_n 1, 1) := by decide +kernel
theorem dX4_becomes_15 : decode cX4_becomes 15 = .ok (.bipush 16, 2) := by decide +kernel
theorem dX4_becomes_17 : decode cX4_becomes 17 = .ok (.iload 5, 2) := by decide +kernel
theorem dX4_becomes_19 : decode cX4_becomes 19 = .ok (.iload_n 2, 1) := by decide +kernel
theorem dX4_becomes_20 : decode cX4_becomes 20 = .ok (.idiv, 1) := by decide +kernel
theorem dX4_becomes_21 : decode cX4_becomes 21 = .ok (.imul, 1) := by decide +kernel
theorem dX4_becomes_22 : decode cX4_becomes 22 = .ok (.iadd, 1) := by decide +kernel
theorem dX4_becomes_23 : decode cX4_becomes 23 = .ok (.iload 5, 2) := by decide +kernel
theorem dX4_becomes_25 : decode cX4_becomes 25 = .ok (.iload_n 2, 1) := by decide +kernel
theorem dX4_becomes_26 : decode cX4_becomes 26 = .ok (.irem, 1) := by decide +kernel
theorem dX4_becomes_27 : decode cX4_becomes 27 = .ok (.iadd, 1) := by decide +kernel
theorem dX4_becomes_28 : decode cX4_becomes 28 = .ok (.istore 6, 2) := by decide +kernel
theorem dX4_becomes_30 : decode cX4_becomes 30 = .ok (.iload 4, 2) := by decide +kernel
theorem dX4_becomes_32 : decode cX4_becomes 32 = .ok (.aload_n 0, 1) := by decide +kernel
theorem dX4_becomes_33 : decode cX4_becomes 33 = .ok (.getfield 7, 3) := by decide +kernel
theorem dX4_becomes_36 : decode cX4_becomes 36 = .ok (.iload 6, 2) := by decide +kernel
theorem dX4_becomes_38 : decode cX4_becomes 38 = .ok (.iaload, 1) := by decide +kernel
theorem dX4_becomes_39 : decode cX4_becomes 39 = .ok (.iload_n 3, 1) := by decide +kernel
theorem dX4_becomes_40 : decode cX4_becomes 40 = .ok (.if_icmp .ne 7, 3) := by decide +kernel
theorem dX4_becomes_43 : decode cX4_becomes 43 = .ok (.iconst 0, 1) := by decide +kernel
theorem dX4_becomes_44 : decode cX4_becomes 44 = .ok (.goto 4, 3) := by decide +kernel
theorem dX4_becomes_47 : decode cX4_becomes 47 = .ok (.iconst 1, 1) := by decide +kernel
theorem dX4_becomes_48 : decode cX4_becomes 48 = .ok (.iadd, 1) := by decide +kernel
theorem dX4_becomes_49 : decode cX4_becomes 49 = .ok (.istore 4, 2) := by decide +kernel
theorem dX4_becomes_51 : decode cX4_becomes 51 = .ok (.aload_n 0, 1) := by decide +kernel
theorem dX4_becomes_52 : decode cX4_becomes 52 = .ok (.getfield 7, 3) := by decide +kernel
theorem dX4_becomes_55 : decode cX4_becomes 55 = .ok (.iload 6, 2) := by decide +kernel
theorem dX4_becomes_57 : decode cX4_becomes 57 = .ok (.iload_n 3, 1) := by decide +kernel
theorem dX4_becomes_58 : decode cX4_becomes 58 = .ok (.iastore, 1) := by decide +kernel
theorem dX4_becomes_59 : decode cX4_becomes 59 = .ok (.iinc 5 1, 3) := by decide +kernel
theorem dX4_becomes_62 : decode cX4_becomes 62 = .ok (.goto (-56), 3) := by decide +kernel
theorem dX4_becomes_65 : decode cX4_becomes 65 = .ok (.iload 4, 2) := by decide +kernel
theorem dX4_becomes_67 : decode cX4_becomes 67 = .ok (.ireturn, 1) := by decide +kernel
theorem dX4_raises_0 : decode cX4_raises 0 = .ok (.iconst 0, 1) := by decide +kernel
theorem dX4_raises_1 : decode cX4_raises 1 = .ok (.istore 4, 2) := by decide +kernel
theorem dX4_raises_3 : decode cX4_raises 3 = .ok (.iconst 0, 1) := by decide +kernel
theorem dX4_raises_4 : decode cX4_raises 4 = .ok (.istore 5, 2) := by decide +kernel
theorem dX4_raises_6 : decode cX4_raises 6 = .ok (.iload 5, 2) := by decide +kernel
theorem dX4_raises_8 : decode cX4_raises 8 = .ok (.iload_n 2, 1) := by decide +kernel
theorem dX4_raises_9 : decode cX4_raises 9 = .ok (.iload_n 2, 1) := by decide +kernel
theorem dX4_raises_10 : decode cX4_raises 10 = .ok (.imul, 1) := by decide +kernel
theorem dX4_raises_11 : decode cX4_raises 11 = .ok (.if_icmp .ge 82, 3) := by decide +kernel
theorem dX4_raises_14 : decode cX4_raises 14 = .ok (.sipush 256, 3) := by decide +kernel
theorem dX4_raises_17 : decode cX4_raises 17 = .ok (.iload_n 1, 1) := by decide +kernel
theorem dX4_raises_18 : decode cX4_raises 18 = .ok (.iadd, 1) := by decide +kernel
theorem dX4_raises_19 : decode cX4_raises 19 = .ok (.bipush 16, 2) := by decide +kernel
theorem dX4_raises_21 : decode cX4_raises 21 = .ok (.iload 5, 2) := by decide +kernel
theorem dX4_raises_23 : decode cX4_raises 23 = .ok (.iload_n 2, 1) := by decide +kernel
theorem dX4_raises_24 : decode cX4_raises 24 = .ok (.idiv, 1) := by decide +kernel
theorem dX4_raises_25 : decode cX4_raises 25 = .ok (.imul, 1) := by decide +kernel
theorem dX4_raises_26 : decode cX4_raises 26 = .ok (.iadd, 1) := by decide +kernel
theorem dX4_raises_27 : decode cX4_raises 27 = .ok (.iload 5, 2) := by decide +kernel
theorem dX4_raises_29 : decode cX4_raises 29 = .ok (.iload_n 2, 1) := by decide +kernel
theorem dX4_raises_30 : decode cX4_raises 30 = .ok (.irem, 1) := by decide +kernel
theorem dX4_raises_31 : decode cX4_raises 31 = .ok (.iadd, 1) := by decide +kernel
theorem dX4_raises_32 : decode cX4_raises 32 = .ok (.istore 6, 2) := by decide +kernel
theorem dX4_raises_34 : decode cX4_raises 34 = .ok (.aload_n 0, 1) := by decide +kernel
theorem dX4_raises_35 : decode cX4_raises 35 = .ok (.getfield 7, 3) := by decide +kernel
theorem dX4_raises_38 : decode cX4_raises 38 = .ok (.iload 6, 2) := by decide +kernel
theorem dX4_raises_40 : decode cX4_raises 40 = .ok (.iaload, 1) := by decide +kernel
theorem dX4_raises_41 : decode cX4_raises 41 = .ok (.iload_n 3, 1) := by decide +kernel
theorem dX4_raises_42 : decode cX4_raises 42 = .ok (.iadd, 1) := by decide +kernel
theorem dX4_raises_43 : decode cX4_raises 43 = .ok (.istore 7, 2) := by decide +kernel
theorem dX4_raises_45 : decode cX4_raises 45 = .ok (.aload_n 0, 1) := by decide +kernel
theorem dX4_raises_46 : decode cX4_raises 46 = .ok (.getfield 7, 3) := by decide +kernel
theorem dX4_raises_49 : decode cX4_raises 49 = .ok (.iload 6, 2) := by decide +kernel
theorem dX4_raises_51 : decode cX4_raises 51 = .ok (.iload 7, 2) := by decide +kernel
theorem dX4_raises_53 : decode cX4_raises 53 = .ok (.ifCond .ge 7, 3) := by decide +kernel
theorem dX4_raises_56 : decode cX4_raises 56 = .ok (.iconst 0, 1) := by decide +kernel
theorem dX4_raises_57 : decode cX4_raises 57 = .ok (.goto 17, 3) := by decide +kernel
theorem dX4_raises_60 : decode cX4_raises 60 = .ok (.iload 7, 2) := by decide +kernel
theorem dX4_raises_62 : decode cX4_raises 62 = .ok (.bipush 9, 2) := by decide +kernel
theorem dX4_raises_64 : decode cX4_raises 64 = .ok (.if_icmp .le 8, 3) := by decide +kernel
theorem dX4_raises_67 : decode cX4_raises 67 = .ok (.bipush 9, 2) := by decide +kernel
theorem dX4_raises_69 : decode cX4_raises 69 = .ok (.goto 5, 3) := by decide +kernel
theorem dX4_raises_72 : decode cX4_raises 72 = .ok (.iload 7, 2) := by decide +kernel
theorem dX4_raises_74 : decode cX4_raises 74 = .ok (.iastore, 1) := by decide +kernel
theorem dX4_raises_75 : decode cX4_raises 75 = .ok (.iload 4, 2) := by decide +kernel
theorem dX4_raises_77 : decode cX4_raises 77 = .ok (.aload_n 0, 1) := by decide +kernel
theorem dX4_raises_78 : decode cX4_raises 78 = .ok (.getfield 7, 3) := by decide +kernel
theorem dX4_raises_81 : decode cX4_raises 81 = .ok (.iload 6, 2) := by decide +kernel
theorem dX4_raises_83 : decode cX4_raises 83 = .ok (.iaload, 1) := by decide +kernel
theorem dX4_raises_84 : decode cX4_raises 84 = .ok (.iadd, 1) := by decide +kernel
theorem dX4_raises_85 : decode cX4_raises 85 = .ok (.istore 4, 2) := by decide +kernel
theorem dX4_raises_87 : decode cX4_raises 87 = .ok (.iinc 5 1, 3) := by decide +kernel
theorem dX4_raises_90 : decode cX4_raises 90 = .ok (.goto (-84), 3) := by decide +kernel
theorem dX4_raises_93 : decode cX4_raises 93 = .ok (.iload 4, 2) := by decide +kernel
theorem dX4_raises_95 : decode cX4_raises 95 = .ok (.ireturn, 1) := by decide +kernel
theorem dX4_low_0 : decode cX4_low 0 = .ok (.iconst 0, 1) := by decide +kernel
theorem dX4_low_1 : decode cX4_low 1 = .ok (.istore_n 3, 1) := by decide +kernel
theorem dX4_low_2 : decode cX4_low 2 = .ok (.iconst 0, 1) := by decide +kernel
theorem dX4_low_3 : decode cX4_low 3 = .ok (.istore 4, 2) := by decide +kernel
theorem dX4_low_5 : decode cX4_low 5 = .ok (.iload 4, 2) := by decide +kernel
theorem dX4_low_7 : decode cX4_low 7 = .ok (.sipush 256, 3) := by decide +kernel
theorem dX4_low_10 : decode cX4_low 10 = .ok (.if_icmp .ge 43, 3) := by decide +kernel
theorem dX4_low_13 : decode cX4_low 13 = .ok (.iload_n 3, 1) := by decide +kernel
theorem dX4_low_14 : decode cX4_low 14 = .ok (.aload_n 0, 1) := by decide +kernel
theorem dX4_low_15 : decode cX4_low 15 = .ok (.getfield 7, 3) := by decide +kernel
theorem dX4_low_18 : decode cX4_low 18 = .ok (.iload 4, 2) := by decide +kernel
theorem dX4_low_20 : decode cX4_low 20 = .ok (.iaload, 1) := by decide +kernel
theorem dX4_low_21 : decode cX4_low 21 = .ok (.iload_n 1, 1) := by decide +kernel
theorem dX4_low_22 : decode cX4_low 22 = .ok (.if_icmp .ne 22, 3) := by decide +kernel
theorem dX4_low_25 : decode cX4_low 25 = .ok (.aload_n 0, 1) := by decide +kernel
theorem dX4_low_26 : decode cX4_low 26 = .ok (.getfield 7, 3) := by decide +kernel
theorem dX4_low_29 : decode cX4_low 29 = .ok (.sipush 256, 3) := by decide +kernel
theorem dX4_low_32 : decode cX4_low 32 = .ok (.iload 4, 2) := by decide +kernel
theorem dX4_low_34 : decode cX4_low 34 = .ok (.iadd, 1) := by decide +kernel
theorem dX4_low_35 : decode cX4_low 35 = .ok (.iaload, 1) := by decide +kernel
theorem dX4_low_36 : decode cX4_low 36 = .ok (.iload_n 2, 1) := by decide +kernel
theorem dX4_low_37 : decode cX4_low 37 = .ok (.if_icmp .ge 7, 3) := by decide +kernel
theorem dX4_low_40 : decode cX4_low 40 = .ok (.iconst 1, 1) := by decide +kernel
theorem dX4_low_41 : decode cX4_low 41 = .ok (.goto 4, 3) := by decide +kernel
theorem dX4_low_44 : decode cX4_low 44 = .ok (.iconst 0, 1) := by decide +kernel
theorem dX4_low_45 : decode cX4_low 45 = .ok (.iadd, 1) := by decide +kernel
theorem dX4_low_46 : decode cX4_low 46 = .ok (.istore_n 3, 1) := by decide +kernel
theorem dX4_low_47 : decode cX4_low 47 = .ok (.iinc 4 1, 3) := by decide +kernel
theorem dX4_low_50 : decode cX4_low 50 = .ok (.goto (-45), 3) := by decide +kernel
theorem dX4_low_53 : decode cX4_low 53 = .ok (.iload_n 3, 1) := by decide +kernel
theorem dX4_low_54 : decode cX4_low 54 = .ok (.ireturn, 1) := by decide +kernel
theorem dX4_floodsTo_0 : decode cX4_floodsTo 0 = .ok (.iconst 0, 1) := by decide +kernel
theorem dX4_floodsTo_1 : decode cX4_floodsTo 1 = .ok (.istore_n 2, 1) := by decide +kernel
theorem dX4_floodsTo_2 : decode cX4_floodsTo 2 = .ok (.iconst 0, 1) := by decide +kernel
theorem dX4_floodsTo_3 : decode cX4_floodsTo 3 = .ok (.istore_n 3, 1) := by decide +kernel
theorem dX4_floodsTo_4 : decode cX4_floodsTo 4 = .ok (.iload_n 3, 1) := by decide +kernel
theorem dX4_floodsTo_5 : decode cX4_floodsTo 5 = .ok (.sipush 256, 3) := by decide +kernel
theorem dX4_floodsTo_8 : decode cX4_floodsTo 8 = .ok (.if_icmp .ge 73, 3) := by decide +kernel
theorem dX4_floodsTo_11 : decode cX4_floodsTo 11 = .ok (.aload_n 0, 1) := by decide +kernel
theorem dX4_floodsTo_12 : decode cX4_floodsTo 12 = .ok (.getfield 7, 3) := by decide +kernel
theorem dX4_floodsTo_15 : decode cX4_floodsTo 15 = .ok (.sipush 256, 3) := by decide +kernel
theorem dX4_floodsTo_18 : decode cX4_floodsTo 18 = .ok (.iload_n 3, 1) := by decide +kernel
theorem dX4_floodsTo_19 : decode cX4_floodsTo 19 = .ok (.iadd, 1) := by decide +kernel
theorem dX4_floodsTo_20 : decode cX4_floodsTo 20 = .ok (.iaload, 1) := by decide +kernel
theorem dX4_floodsTo_21 : decode cX4_floodsTo 21 = .ok (.iload_n 1, 1) := by decide +kernel
theorem dX4_floodsTo_22 : decode cX4_floodsTo 22 = .ok (.if_icmp .ge 7, 3) := by decide +kernel
theorem dX4_floodsTo_25 : decode cX4_floodsTo 25 = .ok (.iconst 1, 1) := by decide +kernel
theorem dX4_floodsTo_26 : decode cX4_floodsTo 26 = .ok (.goto 4, 3) := by decide +kernel
theorem dX4_floodsTo_29 : decode cX4_floodsTo 29 = .ok (.iconst 0, 1) := by decide +kernel
theorem dX4_floodsTo_30 : decode cX4_floodsTo 30 = .ok (.istore 4, 2) := by decide +kernel
theorem dX4_floodsTo_32 : decode cX4_floodsTo 32 = .ok (.iload_n 2, 1) := by decide +kernel
theorem dX4_floodsTo_33 : decode cX4_floodsTo 33 = .ok (.iload 4, 2) := by decide +kernel
theorem dX4_floodsTo_35 : decode cX4_floodsTo 35 = .ok (.ifCond .eq 16, 3) := by decide +kernel
theorem dX4_floodsTo_38 : decode cX4_floodsTo 38 = .ok (.aload_n 0, 1) := by decide +kernel
theorem dX4_floodsTo_39 : decode cX4_floodsTo 39 = .ok (.getfield 7, 3) := by decide +kernel
theorem dX4_floodsTo_42 : decode cX4_floodsTo 42 = .ok (.iload_n 3, 1) := by decide +kernel
theorem dX4_floodsTo_43 : decode cX4_floodsTo 43 = .ok (.iaload, 1) := by decide +kernel
theorem dX4_floodsTo_44 : decode cX4_floodsTo 44 = .ok (.ifCond .le 7, 3) := by decide +kernel
theorem dX4_floodsTo_47 : decode cX4_floodsTo 47 = .ok (.iconst 1, 1) := by decide +kernel
theorem dX4_floodsTo_48 : decode cX4_floodsTo 48 = .ok (.goto 4, 3) := by decide +kernel
theorem dX4_floodsTo_51 : decode cX4_floodsTo 51 = .ok (.iconst 0, 1) := by decide +kernel
theorem dX4_floodsTo_52 : decode cX4_floodsTo 52 = .ok (.iadd, 1) := by decide +kernel
theorem dX4_floodsTo_53 : decode cX4_floodsTo 53 = .ok (.istore_n 2, 1) := by decide +kernel
theorem dX4_floodsTo_54 : decode cX4_floodsTo 54 = .ok (.aload_n 0, 1) := by decide +kernel
theorem dX4_floodsTo_55 : decode cX4_floodsTo 55 = .ok (.getfield 7, 3) := by decide +kernel
theorem dX4_floodsTo_58 : decode cX4_floodsTo 58 = .ok (.iload_n 3, 1) := by decide +kernel
theorem dX4_floodsTo_59 : decode cX4_floodsTo 59 = .ok (.iload 4, 2) := by decide +kernel
theorem dX4_floodsTo_61 : decode cX4_floodsTo 61 = .ok (.ifCond .eq 7, 3) := by decide +kernel
theorem dX4_floodsTo_64 : decode cX4_floodsTo 64 = .ok (.iconst 0, 1) := by decide +kernel
theorem dX4_floodsTo_65 : decode cX4_floodsTo 65 = .ok (.goto 9, 3) := by decide +kernel
theorem dX4_floodsTo_68 : decode cX4_floodsTo 68 = .ok (.aload_n 0, 1) := by decide +kernel
theorem dX4_floodsTo_69 : decode cX4_floodsTo 69 = .ok (.getfield 7, 3) := by decide +kernel
theorem dX4_floodsTo_72 : decode cX4_floodsTo 72 = .ok (.iload_n 3, 1) := by decide +kernel
theorem dX4_floodsTo_73 : decode cX4_floodsTo 73 = .ok (.iaload, 1) := by decide +kernel
theorem dX4_floodsTo_74 : decode cX4_floodsTo 74 = .ok (.iastore, 1) := by decide +kernel
theorem dX4_floodsTo_75 : decode cX4_floodsTo 75 = .ok (.iinc 3 1, 3) := by decide +kernel
theorem dX4_floodsTo_78 : decode cX4_floodsTo 78 = .ok (.goto (-74), 3) := by decide +kernel
theorem dX4_floodsTo_81 : decode cX4_floodsTo 81 = .ok (.aload_n 0, 1) := by decide +kernel
theorem dX4_floodsTo_82 : decode cX4_floodsTo 82 = .ok (.getfield 7, 3) := by decide +kernel
theorem dX4_floodsTo_85 : decode cX4_floodsTo 85 = .ok (.sipush 523, 3) := by decide +kernel
theorem dX4_floodsTo_88 : decode cX4_floodsTo 88 = .ok (.dup2, 1) := by decide +kernel
theorem dX4_floodsTo_89 : decode cX4_floodsTo 89 = .ok (.iaload, 1) := by decide +kernel
theorem dX4_floodsTo_90 : decode cX4_floodsTo 90 = .ok (.iconst 1, 1) := by decide +kernel
theorem dX4_floodsTo_91 : decode cX4_floodsTo 91 = .ok (.iadd, 1) := by decide +kernel
theorem dX4_floodsTo_92 : decode cX4_floodsTo 92 = .ok (.iastore, 1) := by decide +kernel
theorem dX4_floodsTo_93 : decode cX4_floodsTo 93 = .ok (.iload_n 2, 1) := by decide +kernel
theorem dX4_floodsTo_94 : decode cX4_floodsTo 94 = .ok (.ireturn, 1) := by decide +kernel
set_option maxRecDepth 20000 in
theorem ggX4_canBuy_X4_isOne : GoodIn wsX4_canBuy wsX4_isOne := goodIn_r _ [6, 1, 7, 8, 9, 10, 11, 12, 13, 14, 15, 16, 17, 18, 19, 20, 21] (by decide +kernel) (by decide +kernel)
set_option maxRecDepth 20000 in
theorem gX4_canBuy_X4_isOne : GoodIn wsX4_canBuy (wsV RX4 59 RX4 yX4_isOne wsX4_isOne) := goodIn_app (goodIn_of _ (by decide +kernel)) ggX4_canBuy_X4_isOne
theorem dX4_canBuy_0 : decode cX4_canBuy 0 = .ok (.aload_n 0, 1) := by decide +kernel
theorem dX4_canBuy_1 : decode cX4_canBuy 1 = .ok (.iload_n 2, 1) := by decide +kernel
theorem dX4_canBuy_2 : decode cX4_canBuy 2 = .ok (.iload_n 3, 1) := by decide +kernel
theorem dX4_canBuy_3 : decode cX4_canBuy 3 = .ok (.invokevirtual 59, 3) := by decide +kernel
theorem dX4_canBuy_6 : decode cX4_canBuy 6 = .ok (.ifCond .eq 42, 3) := by decide +kernel
theorem dX4_canBuy_9 : decode cX4_canBuy 9 = .ok (.aload_n 0, 1) := by decide +kernel
theorem dX4_canBuy_10 : decode cX4_canBuy 10 = .ok (.getfield 7, 3) := by decide +kernel
theorem dX4_canBuy_13 : decode cX4_canBuy 13 = .ok (.iload_n 2, 1) := by decide +kernel
theorem dX4_canBuy_14 : decode cX4_canBuy 14 = .ok (.iaload, 1) := by decide +kernel
theorem dX4_canBuy_15 : decode cX4_canBuy 15 = .ok (.iload_n 1, 1) := by decide +kernel
theorem dX4_canBuy_16 : decode cX4_canBuy 16 = .ok (.if_icmp .eq 32, 3) := by decide +kernel
theorem dX4_canBuy_19 : decode cX4_canBuy 19 = .ok (.aload_n 0, 1) := by decide +kernel
theorem dX4_canBuy_20 : decode cX4_canBuy 20 = .ok (.getfield 7, 3) := by decide +kernel
theorem dX4_canBuy_23 : decode cX4_canBuy 23 = .ok (.sipush 512, 3) := by decide +kernel
theorem dX4_canBuy_26 : decode cX4_canBuy 26 = .ok (.iload_n 1, 1) := by decide +kernel
theorem dX4_canBuy_27 : decode cX4_canBuy 27 = .ok (.iadd, 1) := by decide +kernel
theorem dX4_canBuy_28 : decode cX4_canBuy 28 = .ok (.iaload, 1) := by decide +kernel
theorem dX4_canBuy_29 : decode cX4_canBuy 29 = .ok (.aload_n 0, 1) := by decide +kernel
theorem dX4_canBuy_30 : decode cX4_canBuy 30 = .ok (.getfield 7, 3) := by decide +kernel
theorem dX4_canBuy_33 : decode cX4_canBuy 33 = .ok (.sipush 520, 3) := by decide +kernel
theorem dX4_canBuy_36 : decode cX4_canBuy 36 = .ok (.iaload, 1) := by decide +kernel
theorem dX4_canBuy_37 : decode cX4_canBuy 37 = .ok (.iload_n 3, 1) := by decide +kernel
theorem dX4_canBuy_38 : decode cX4_canBuy 38 = .ok (.imul, 1) := by decide +kernel
theorem dX4_canBuy_39 : decode cX4_canBuy 39 = .ok (.iload_n 3, 1) := by decide +kernel
theorem dX4_canBuy_40 : decode cX4_canBuy 40 = .ok (.imul, 1) := by decide +kernel
theorem dX4_canBuy_41 : decode cX4_canBuy 41 = .ok (.if_icmp .lt 7, 3) := by decide +kernel
theorem dX4_canBuy_44 : decode cX4_canBuy 44 = .ok (.iconst 1, 1) := by decide +kernel
theorem dX4_canBuy_45 : decode cX4_canBuy 45 = .ok (.goto 4, 3) := by decide +kernel
theorem dX4_canBuy_48 : decode cX4_canBuy 48 = .ok (.iconst 0, 1) := by decide +kernel
theorem dX4_canBuy_49 : decode cX4_canBuy 49 = .ok (.ireturn, 1) := by decide +kernel
set_option maxRecDepth 20000 in
theorem ggX4_buys_X4_becomes : GoodIn wsX4_buys wsX4_becomes := goodIn_r _ [6, 1, 7, 8, 9, 10, 11, 12, 13, 14, 15, 16, 17, 18, 19, 20, 21] (by decide +kernel) (by decide +kernel)
set_option maxRecDepth 20000 in
theorem gX4_buys_X4_becomes : GoodIn wsX4_buys (wsV RX4 69 RX4 yX4_becomes wsX4_becomes) := goodIn_app (goodIn_of _ (by decide +kernel)) ggX4_buys_X4_becomes
theorem dX4_buys_0 : decode cX4_buys 0 = .ok (.aload_n 0, 1) := by decide +kernel
theorem dX4_buys_1 : decode cX4_buys 1 = .ok (.getfield 7, 3) := by decide +kernel
theorem dX4_buys_4 : decode cX4_buys 4 = .ok (.sipush 520, 3) := by decide +kernel
theorem dX4_buys_7 : decode cX4_buys 7 = .ok (.iaload, 1) := by decide +kernel
theorem dX4_buys_8 : decode cX4_buys 8 = .ok (.iload_n 3, 1) := by decide +kernel
theorem dX4_buys_9 : decode cX4_buys 9 = .ok (.imul, 1) := by decide +kernel
theorem dX4_buys_10 : decode cX4_buys 10 = .ok (.iload_n 3, 1) := by decide +kernel
theorem dX4_buys_11 : decode cX4_buys 11 = .ok (.imul, 1) := by decide +kernel
theorem dX4_buys_12 : decode cX4_buys 12 = .ok (.istore 4, 2) := by decide +kernel
theorem dX4_buys_14 : decode cX4_buys 14 = .ok (.aload_n 0, 1) := by decide +kernel
theorem dX4_buys_15 : decode cX4_buys 15 = .ok (.getfield 7, 3) := by decide +kernel
theorem dX4_buys_18 : decode cX4_buys 18 = .ok (.sipush 512, 3) := by decide +kernel
theorem dX4_buys_21 : decode cX4_buys 21 = .ok (.iload_n 1, 1) := by decide +kernel
theorem dX4_buys_22 : decode cX4_buys 22 = .ok (.iadd, 1) := by decide +kernel
theorem dX4_buys_23 : decode cX4_buys 23 = .ok (.dup2, 1) := by decide +kernel
theorem dX4_buys_24 : decode cX4_buys 24 = .ok (.iaload, 1) := by decide +kernel
theorem dX4_buys_25 : decode cX4_buys 25 = .ok (.iload 4, 2) := by decide +kernel
theorem dX4_buys_27 : decode cX4_buys 27 = .ok (.isub, 1) := by decide +kernel
theorem dX4_buys_28 : decode cX4_buys 28 = .ok (.iastore, 1) := by decide +kernel
theorem dX4_buys_29 : decode cX4_buys 29 = .ok (.aload_n 0, 1) := by decide +kernel
theorem dX4_buys_30 : decode cX4_buys 30 = .ok (.getfield 7, 3) := by decide +kernel
theorem dX4_buys_33 : decode cX4_buys 33 = .ok (.sipush 512, 3) := by decide +kernel
theorem dX4_buys_36 : decode cX4_buys 36 = .ok (.aload_n 0, 1) := by decide +kernel
theorem dX4_buys_37 : decode cX4_buys 37 = .ok (.getfield 7, 3) := by decide +kernel
theorem dX4_buys_40 : decode cX4_buys 40 = .ok (.iload_n 2, 1) := by decide +kernel
theorem dX4_buys_41 : decode cX4_buys 41 = .ok (.iaload, 1) := by decide +kernel
theorem dX4_buys_42 : decode cX4_buys 42 = .ok (.iadd, 1) := by decide +kernel
theorem dX4_buys_43 : decode cX4_buys 43 = .ok (.dup2, 1) := by decide +kernel
theorem dX4_buys_44 : decode cX4_buys 44 = .ok (.iaload, 1) := by decide +kernel
theorem dX4_buys_45 : decode cX4_buys 45 = .ok (.iload 4, 2) := by decide +kernel
theorem dX4_buys_47 : decode cX4_buys 47 = .ok (.iadd, 1) := by decide +kernel
theorem dX4_buys_48 : decode cX4_buys 48 = .ok (.iastore, 1) := by decide +kernel
theorem dX4_buys_49 : decode cX4_buys 49 = .ok (.aload_n 0, 1) := by decide +kernel
theorem dX4_buys_50 : decode cX4_buys 50 = .ok (.getfield 7, 3) := by decide +kernel
theorem dX4_buys_53 : decode cX4_buys 53 = .ok (.sipush 522, 3) := by decide +kernel
theorem dX4_buys_56 : decode cX4_buys 56 = .ok (.dup2, 1) := by decide +kernel
theorem dX4_buys_57 : decode cX4_buys 57 = .ok (.iaload, 1) := by decide +kernel
theorem dX4_buys_58 : decode cX4_buys 58 = .ok (.iconst 1, 1) := by decide +kernel
theorem dX4_buys_59 : decode cX4_buys 59 = .ok (.iadd, 1) := by decide +kernel
theorem dX4_buys_60 : decode cX4_buys 60 = .ok (.iastore, 1) := by decide +kernel
theorem dX4_buys_61 : decode cX4_buys 61 = .ok (.aload_n 0, 1) := by decide +kernel
theorem dX4_buys_62 : decode cX4_buys 62 = .ok (.iload_n 2, 1) := by decide +kernel
theorem dX4_buys_63 : decode cX4_buys 63 = .ok (.iload_n 3, 1) := by decide +kernel
theorem dX4_buys_64 : decode cX4_buys 64 = .ok (.iload_n 1, 1) := by decide +kernel
theorem dX4_buys_65 : decode cX4_buys 65 = .ok (.invokevirtual 69, 3) := by decide +kernel
theorem dX4_buys_68 : decode cX4_buys 68 = .ok (.ifCond .le 8, 3) := by decide +kernel
theorem dX4_buys_71 : decode cX4_buys 71 = .ok (.iload 4, 2) := by decide +kernel
theorem dX4_buys_73 : decode cX4_buys 73 = .ok (.goto 4, 3) := by decide +kernel
theorem dX4_buys_76 : decode cX4_buys 76 = .ok (.iconst (-1), 1) := by decide +kernel
theorem dX4_buys_77 : decode cX4_buys 77 = .ok (.ireturn, 1) := by decide +kernel
set_option maxRecDepth 20000 in
theorem ggX4_leastOf_X4_finds : GoodIn wsX4_leastOf wsX4_finds := goodIn_r _ [7, 1, 8, 2, 9, 10, 6, 11, 12, 13, 14, 15, 16, 21, 22, 23, 24, 25, 26, 27, 28, 29, 30, 31, 32, 33, 34, 35] (by decide +kernel) (by decide +kernel)
set_option maxRecDepth 20000 in
theorem gX4_leastOf_X4_finds : GoodIn wsX4_leastOf (wsV RX4 63 RX4 yX4_finds wsX4_finds) := goodIn_app (goodIn_of _ (by decide +kernel)) ggX4_leastOf_X4_finds
set_option maxRecDepth 20000 in
theorem ggX4_leastOf_X4_ownerOf : GoodIn wsX4_leastOf wsX4_ownerOf := goodIn_r _ [20, 16, 8, 21, 22, 23, 24, 25, 26, 27, 28, 29, 30, 31, 32, 33, 34, 35] (by decide +kernel) (by decide +kernel)
set_option maxRecDepth 20000 in
theorem gX4_leastOf_X4_ownerOf : GoodIn wsX4_leastOf (wsV RX4 66 RX4 yX4_ownerOf wsX4_ownerOf) := goodIn_app (goodIn_of _ (by decide +kernel)) ggX4_leastOf_X4_ownerOf
theorem dX4_leastOf_0 : decode cX4_leastOf 0 = .ok (.aload_n 0, 1) := by decide +kernel
theorem dX4_leastOf_1 : decode cX4_leastOf 1 = .ok (.invokevirtual 63, 3) := by decide +kernel
theorem dX4_leastOf_4 : decode cX4_leastOf 4 = .ok (.iconst (-1), 1) := by decide +kernel
theorem dX4_leastOf_5 : decode cX4_leastOf 5 = .ok (.istore_n 2, 1) := by decide +kernel
theorem dX4_leastOf_6 : decode cX4_leastOf 6 = .ok (.iconst 0, 1) := by decide +kernel
theorem dX4_leastOf_7 : decode cX4_leastOf 7 = .ok (.istore_n 3, 1) := by decide +kernel
theorem dX4_leastOf_8 : decode cX4_leastOf 8 = .ok (.iload_n 3, 1) := by decide +kernel
theorem dX4_leastOf_9 : decode cX4_leastOf 9 = .ok (.aload_n 0, 1) := by decide +kernel
theorem dX4_leastOf_10 : decode cX4_leastOf 10 = .ok (.getfield 52, 3) := by decide +kernel
theorem dX4_leastOf_13 : decode cX4_leastOf 13 = .ok (.if_icmp .ge 44, 3) := by decide +kernel
theorem dX4_leastOf_16 : decode cX4_leastOf 16 = .ok (.aload_n 0, 1) := by decide +kernel
theorem dX4_leastOf_17 : decode cX4_leastOf 17 = .ok (.iload_n 3, 1) := by decide +kernel
theorem dX4_leastOf_18 : decode cX4_leastOf 18 = .ok (.invokevirtual 66, 3) := by decide +kernel
theorem dX4_leastOf_21 : decode cX4_leastOf 21 = .ok (.iload_n 1, 1) := by decide +kernel
theorem dX4_leastOf_22 : decode cX4_leastOf 22 = .ok (.if_icmp .ne 27, 3) := by decide +kernel
theorem dX4_leastOf_25 : decode cX4_leastOf 25 = .ok (.iload_n 2, 1) := by decide +kernel
theorem dX4_leastOf_26 : decode cX4_leastOf 26 = .ok (.iconst (-1), 1) := by decide +kernel
theorem dX4_leastOf_27 : decode cX4_leastOf 27 = .ok (.if_icmp .eq 18, 3) := by decide +kernel
theorem dX4_leastOf_30 : decode cX4_leastOf 30 = .ok (.aload_n 0, 1) := by decide +kernel
theorem dX4_leastOf_31 : decode cX4_leastOf 31 = .ok (.getfield 28, 3) := by decide +kernel
theorem dX4_leastOf_34 : decode cX4_leastOf 34 = .ok (.iload_n 3, 1) := by decide +kernel
theorem dX4_leastOf_35 : decode cX4_leastOf 35 = .ok (.iaload, 1) := by decide +kernel
theorem dX4_leastOf_36 : decode cX4_leastOf 36 = .ok (.aload_n 0, 1) := by decide +kernel
theorem dX4_leastOf_37 : decode cX4_leastOf 37 = .ok (.getfield 28, 3) := by decide +kernel
theorem dX4_leastOf_40 : decode cX4_leastOf 40 = .ok (.iload_n 2, 1) := by decide +kernel
theorem dX4_leastOf_41 : decode cX4_leastOf 41 = .ok (.iaload, 1) := by decide +kernel
theorem dX4_leastOf_42 : decode cX4_leastOf 42 = .ok (.if_icmp .gt 7, 3) := by decide +kernel
theorem dX4_leastOf_45 : decode cX4_leastOf 45 = .ok (.iload_n 3, 1) := by decide +kernel
theorem dX4_leastOf_46 : decode cX4_leastOf 46 = .ok (.goto 4, 3) := by decide +kernel
theorem dX4_leastOf_49 : decode cX4_leastOf 49 = .ok (.iload_n 2, 1) := by decide +kernel
theorem dX4_leastOf_50 : decode cX4_leastOf 50 = .ok (.istore_n 2, 1) := by decide +kernel
theorem dX4_leastOf_51 : decode cX4_leastOf 51 = .ok (.iinc 3 1, 3) := by decide +kernel
theorem dX4_leastOf_54 : decode cX4_leastOf 54 = .ok (.goto (-46), 3) := by decide +kernel
theorem dX4_leastOf_57 : decode cX4_leastOf 57 = .ok (.iload_n 2, 1) := by decide +kernel
theorem dX4_leastOf_58 : decode cX4_leastOf 58 = .ok (.ireturn, 1) := by decide +kernel
set_option maxRecDepth 20000 in
theorem ggX4_loses_X4_plotsFor : GoodIn wsX4_loses wsX4_plotsFor := goodIn_r _ [8, 9, 10, 11, 12, 7, 13, 2, 3, 14, 15, 16, 17, 18, 19, 20, 1, 21, 22, 23, 24, 33, 34, 35, 36, 37, 38, 39, 40, 41, 42, 43, 44, 45, 46, 47] (by decide +kernel) (by decide +kernel)
set_option maxRecDepth 20000 in
theorem gX4_loses_X4_plotsFor : GoodIn wsX4_loses (wsV RX4 73 RX4 yX4_plotsFor wsX4_plotsFor) := goodIn_app (goodIn_of _ (by decide +kernel)) ggX4_loses_X4_plotsFor
set_option maxRecDepth 20000 in
theorem ggX4_loses_X4_leastOf : GoodIn wsX4_loses wsX4_leastOf := goodIn_r _ [28, 9, 3, 10, 11, 12, 7, 13, 2, 14, 15, 16, 17, 18, 19, 20, 1, 21, 22, 23, 24, 33, 34, 35, 36, 37, 38, 39, 40, 41, 42, 43, 44, 45, 46, 47] (by decide +kernel) (by decide +kernel)
set_option maxRecDepth 20000 in
theorem gX4_loses_X4_leastOf : GoodIn wsX4_loses (wsV RX4 76 RX4 yX4_leastOf wsX4_leastOf) := goodIn_app (goodIn_of _ (by decide +kernel)) ggX4_loses_X4_leastOf
set_option maxRecDepth 20000 in
theorem ggX4_loses_X4_becomes : GoodIn wsX4_loses wsX4_becomes := goodIn_r _ [32, 1, 33, 34, 35, 36, 37, 38, 39, 40, 41, 42, 43, 44, 45, 46, 47] (by decide +kernel) (by decide +kernel)
set_option maxRecDepth 20000 in
theorem gX4_loses_X4_becomes : GoodIn wsX4_loses (wsV RX4 69 RX4 yX4_becomes wsX4_becomes) := goodIn_app (goodIn_of _ (by decide +kernel)) ggX4_loses_X4_becomes
theorem dX4_loses_0 : decode cX4_loses 0 = .ok (.iconst 0, 1) := by decide +kernel
theorem dX4_loses_1 : decode cX4_loses 1 = .ok (.istore_n 2, 1) := by decide +kernel
theorem dX4_loses_2 : decode cX4_loses 2 = .ok (.aload_n 0, 1) := by decide +kernel
theorem dX4_loses_3 : decode cX4_loses 3 = .ok (.getfield 7, 3) := by decide +kernel
theorem dX4_loses_6 : decode cX4_loses 6 = .ok (.sipush 512, 3) := by decide +kernel
theorem dX4_loses_9 : decode cX4_loses 9 = .ok (.iload_n 1, 1) := by decide +kernel
theorem dX4_loses_10 : decode cX4_loses 10 = .ok (.iadd, 1) := by decide +kernel
theorem dX4_loses_11 : decode cX4_loses 11 = .ok (.iaload, 1) := by decide +kernel
theorem dX4_loses_12 : decode cX4_loses 12 = .ok (.aload_n 0, 1) := by decide +kernel
theorem dX4_loses_13 : decode cX4_loses 13 = .ok (.getfield 7, 3) := by decide +kernel
theorem dX4_loses_16 : decode cX4_loses 16 = .ok (.sipush 521, 3) := by decide +kernel
theorem dX4_loses_19 : decode cX4_loses 19 = .ok (.iaload, 1) := by decide +kernel
theorem dX4_loses_20 : decode cX4_loses 20 = .ok (.aload_n 0, 1) := by decide +kernel
theorem dX4_loses_21 : decode cX4_loses 21 = .ok (.iload_n 1, 1) := by decide +kernel
theorem dX4_loses_22 : decode cX4_loses 22 = .ok (.invokevirtual 73, 3) := by decide +kernel
theorem dX4_loses_25 : decode cX4_loses 25 = .ok (.imul, 1) := by decide +kernel
theorem dX4_loses_26 : decode cX4_loses 26 = .ok (.if_icmp .ge 40, 3) := by decide +kernel
theorem dX4_loses_29 : decode cX4_loses 29 = .ok (.aload_n 0, 1) := by decide +kernel
theorem dX4_loses_30 : decode cX4_loses 30 = .ok (.iload_n 1, 1) := by decide +kernel
theorem dX4_loses_31 : decode cX4_loses 31 = .ok (.invokevirtual 76, 3) := by decide +kernel
theorem dX4_loses_34 : decode cX4_loses 34 = .ok (.istore_n 3, 1) := by decide +kernel
theorem dX4_loses_35 : decode cX4_loses 35 = .ok (.iload_n 2, 1) := by decide +kernel
theorem dX4_loses_36 : decode cX4_loses 36 = .ok (.aload_n 0, 1) := by decide +kernel
theorem dX4_loses_37 : decode cX4_loses 37 = .ok (.aload_n 0, 1) := by decide +kernel
theorem dX4_loses_38 : decode cX4_loses 38 = .ok (.getfield 25, 3) := by decide +kernel
theorem dX4_loses_41 : decode cX4_loses 41 = .ok (.iload_n 3, 1) := by decide +kernel
theorem dX4_loses_42 : decode cX4_loses 42 = .ok (.iaload, 1) := by decide +kernel
theorem dX4_loses_43 : decode cX4_loses 43 = .ok (.aload_n 0, 1) := by decide +kernel
theorem dX4_loses_44 : decode cX4_loses 44 = .ok (.getfield 28, 3) := by decide +kernel
theorem dX4_loses_47 : decode cX4_loses 47 = .ok (.iload_n 3, 1) := by decide +kernel
theorem dX4_loses_48 : decode cX4_loses 48 = .ok (.iaload, 1) := by decide +kernel
theorem dX4_loses_49 : decode cX4_loses 49 = .ok (.iconst 0, 1) := by decide +kernel
theorem dX4_loses_50 : decode cX4_loses 50 = .ok (.invokevirtual 69, 3) := by decide +kernel
theorem dX4_loses_53 : decode cX4_loses 53 = .ok (.ifCond .le 7, 3) := by decide +kernel
theorem dX4_loses_56 : decode cX4_loses 56 = .ok (.iconst 1, 1) := by decide +kernel
theorem dX4_loses_57 : decode cX4_loses 57 = .ok (.goto 4, 3) := by decide +kernel
theorem dX4_loses_60 : decode cX4_loses 60 = .ok (.iconst 0, 1) := by decide +kernel
theorem dX4_loses_61 : decode cX4_loses 61 = .ok (.iadd, 1) := by decide +kernel
theorem dX4_loses_62 : decode cX4_loses 62 = .ok (.istore_n 2, 1) := by decide +kernel
theorem dX4_loses_63 : decode cX4_loses 63 = .ok (.goto (-61), 3) := by decide +kernel
theorem dX4_loses_66 : decode cX4_loses 66 = .ok (.iload_n 2, 1) := by decide +kernel
theorem dX4_loses_67 : decode cX4_loses 67 = .ok (.ireturn, 1) := by decide +kernel
set_option maxRecDepth 20000 in
theorem ggX4_taxes_X4_loses : GoodIn wsX4_taxes wsX4_loses := goodIn_r _ [6, 1, 7, 8, 9, 10, 11, 5, 12, 13, 14, 15, 16, 17, 18, 19, 20, 21, 22, 23, 24, 25, 26, 27, 28, 29, 30, 31, 32, 33, 34, 35, 36, 37, 38, 39, 40, 41, 42, 43, 44, 45, 46, 47, 48, 49, 50, 51] (by decide +kernel) (by decide +kernel)
set_option maxRecDepth 20000 in
theorem gX4_taxes_X4_loses : GoodIn wsX4_taxes (wsV RX4 79 RX4 yX4_loses wsX4_loses) := goodIn_app (goodIn_of _ (by decide +kernel)) ggX4_taxes_X4_loses
set_option maxRecDepth 20000 in
theorem ggX4_taxes_X4_plotsFor : GoodIn wsX4_taxes wsX4_plotsFor := goodIn_r _ [12, 13, 14, 15, 16, 5, 17, 7, 8, 18, 19, 20, 21, 22, 23, 24, 1, 25, 26, 27, 28, 37, 38, 39, 40, 41, 42, 43, 44, 45, 46, 47, 48, 49, 50, 51] (by decide +kernel) (by decide +kernel)
set_option maxRecDepth 20000 in
theorem gX4_taxes_X4_plotsFor : GoodIn wsX4_taxes (wsV RX4 73 RX4 yX4_plotsFor wsX4_plotsFor) := goodIn_app (goodIn_of _ (by decide +kernel)) ggX4_taxes_X4_plotsFor
theorem dX4_taxes_0 : decode cX4_taxes 0 = .ok (.iconst 0, 1) := by decide +kernel
theorem dX4_taxes_1 : decode cX4_taxes 1 = .ok (.istore_n 1, 1) := by decide +kernel
theorem dX4_taxes_2 : decode cX4_taxes 2 = .ok (.iconst 1, 1) := by decide +kernel
theorem dX4_taxes_3 : decode cX4_taxes 3 = .ok (.istore_n 2, 1) := by decide +kernel
theorem dX4_taxes_4 : decode cX4_taxes 4 = .ok (.iload_n 2, 1) := by decide +kernel
theorem dX4_taxes_5 : decode cX4_taxes 5 = .ok (.bipush 8, 2) := by decide +kernel
theorem dX4_taxes_7 : decode cX4_taxes 7 = .ok (.if_icmp .ge 70, 3) := by decide +kernel
theorem dX4_taxes_10 : decode cX4_taxes 10 = .ok (.aload_n 0, 1) := by decide +kernel
theorem dX4_taxes_11 : decode cX4_taxes 11 = .ok (.getfield 7, 3) := by decide +kernel
theorem dX4_taxes_14 : decode cX4_taxes 14 = .ok (.sipush 524, 3) := by decide +kernel
theorem dX4_taxes_17 : decode cX4_taxes 17 = .ok (.dup2, 1) := by decide +kernel
theorem dX4_taxes_18 : decode cX4_taxes 18 = .ok (.iaload, 1) := by decide +kernel
theorem dX4_taxes_19 : decode cX4_taxes 19 = .ok (.aload_n 0, 1) := by decide +kernel
theorem dX4_taxes_20 : decode cX4_taxes 20 = .ok (.iload_n 2, 1) := by decide +kernel
theorem dX4_taxes_21 : decode cX4_taxes 21 = .ok (.invokevirtual 79, 3) := by decide +kernel
theorem dX4_taxes_24 : decode cX4_taxes 24 = .ok (.iadd, 1) := by decide +kernel
theorem dX4_taxes_25 : decode cX4_taxes 25 = .ok (.iastore, 1) := by decide +kernel
theorem dX4_taxes_26 : decode cX4_taxes 26 = .ok (.aload_n 0, 1) := by decide +kernel
theorem dX4_taxes_27 : decode cX4_taxes 27 = .ok (.getfield 7, 3) := by decide +kernel
theorem dX4_taxes_30 : decode cX4_taxes 30 = .ok (.sipush 521, 3) := by decide +kernel
theorem dX4_taxes_33 : decode cX4_taxes 33 = .ok (.iaload, 1) := by decide +kernel
theorem dX4_taxes_34 : decode cX4_taxes 34 = .ok (.aload_n 0, 1) := by decide +kernel
theorem dX4_taxes_35 : decode cX4_taxes 35 = .ok (.iload_n 2, 1) := by decide +kernel
theorem dX4_taxes_36 : decode cX4_taxes 36 = .ok (.invokevirtual 73, 3) := by decide +kernel
theorem dX4_taxes_39 : decode cX4_taxes 39 = .ok (.imul, 1) := by decide +kernel
theorem dX4_taxes_40 : decode cX4_taxes 40 = .ok (.istore_n 3, 1) := by decide +kernel
theorem dX4_taxes_41 : decode cX4_taxes 41 = .ok (.aload_n 0, 1) := by decide +kernel
theorem dX4_taxes_42 : decode cX4_taxes 42 = .ok (.getfield 7, 3) := by decide +kernel
theorem dX4_taxes_45 : decode cX4_taxes 45 = .ok (.sipush 512, 3) := by decide +kernel
theorem dX4_taxes_48 : decode cX4_taxes 48 = .ok (.iload_n 2, 1) := by decide +kernel
theorem dX4_taxes_49 : decode cX4_taxes 49 = .ok (.iadd, 1) := by decide +kernel
theorem dX4_taxes_50 : decode cX4_taxes 50 = .ok (.dup2, 1) := by decide +kernel
theorem dX4_taxes_51 : decode cX4_taxes 51 = .ok (.iaload, 1) := by decide +kernel
theorem dX4_taxes_52 : decode cX4_taxes 52 = .ok (.iload_n 3, 1) := by decide +kernel
theorem dX4_taxes_53 : decode cX4_taxes 53 = .ok (.isub, 1) := by decide +kernel
theorem dX4_taxes_54 : decode cX4_taxes 54 = .ok (.iastore, 1) := by decide +kernel
theorem dX4_taxes_55 : decode cX4_taxes 55 = .ok (.aload_n 0, 1) := by decide +kernel
theorem dX4_taxes_56 : decode cX4_taxes 56 = .ok (.getfield 7, 3) := by decide +kernel
theorem dX4_taxes_59 : decode cX4_taxes 59 = .ok (.sipush 512, 3) := by decide +kernel
theorem dX4_taxes_62 : decode cX4_taxes 62 = .ok (.dup2, 1) := by decide +kernel
theorem dX4_taxes_63 : decode cX4_taxes 63 = .ok (.iaload, 1) := by decide +kernel
theorem dX4_taxes_64 : decode cX4_taxes 64 = .ok (.iload_n 3, 1) := by decide +kernel
theorem dX4_taxes_65 : decode cX4_taxes 65 = .ok (.iadd, 1) := by decide +kernel
theorem dX4_taxes_66 : decode cX4_taxes 66 = .ok (.iastore, 1) := by decide +kernel
theorem dX4_taxes_67 : decode cX4_taxes 67 = .ok (.iload_n 1, 1) := by decide +kernel
theorem dX4_taxes_68 : decode cX4_taxes 68 = .ok (.iload_n 3, 1) := by decide +kernel
theorem dX4_taxes_69 : decode cX4_taxes 69 = .ok (.iadd, 1) := by decide +kernel
theorem dX4_taxes_70 : decode cX4_taxes 70 = .ok (.istore_n 1, 1) := by decide +kernel
theorem dX4_taxes_71 : decode cX4_taxes 71 = .ok (.iinc 2 1, 3) := by decide +kernel
theorem dX4_taxes_74 : decode cX4_taxes 74 = .ok (.goto (-70), 3) := by decide +kernel
theorem dX4_taxes_77 : decode cX4_taxes 77 = .ok (.iload_n 1, 1) := by decide +kernel
theorem dX4_taxes_78 : decode cX4_taxes 78 = .ok (.ireturn, 1) := by decide +kernel
set_option maxRecDepth 20000 in
theorem ggX4_grant_X4_isCell : GoodIn wsX4_grant wsX4_isCell := goodIn_r _ [5, 6, 7, 4, 8] (by decide +kernel) (by decide +kernel)
set_option maxRecDepth 20000 in
theorem gX4_grant_X4_isCell : GoodIn wsX4_grant (va_wsS RX4 82 yX4_isCell wsX4_isCell) := goodIn_app (goodIn_of _ (by decide +kernel)) ggX4_grant_X4_isCell
set_option maxRecDepth 20000 in
theorem ggX4_grant_X4_isOwner : GoodIn wsX4_grant wsX4_isOwner := goodIn_r _ [11, 6, 7, 4, 8] (by decide +kernel) (by decide +kernel)
set_option maxRecDepth 20000 in
theorem gX4_grant_X4_isOwner : GoodIn wsX4_grant (va_wsS RX4 85 yX4_isOwner wsX4_isOwner) := goodIn_app (goodIn_of _ (by decide +kernel)) ggX4_grant_X4_isOwner
set_option maxRecDepth 20000 in
theorem ggX4_grant_X4_refuses : GoodIn wsX4_grant wsX4_refuses := goodIn_r _ [15, 1, 33, 34, 35, 36, 37, 38, 39, 40, 41, 42, 43, 44, 45, 46, 47] (by decide +kernel) (by decide +kernel)
set_option maxRecDepth 20000 in
theorem gX4_grant_X4_refuses : GoodIn wsX4_grant (wsV RX4 89 RX4 yX4_refuses wsX4_refuses) := goodIn_app (goodIn_of _ (by decide +kernel)) ggX4_grant_X4_refuses
set_option maxRecDepth 20000 in
theorem ggX4_grant_X4_isSquare : GoodIn wsX4_grant wsX4_isSquare := goodIn_r _ [18] (by decide +kernel) (by decide +kernel)
set_option maxRecDepth 20000 in
theorem gX4_grant_X4_isSquare : GoodIn wsX4_grant (va_wsS RX4 92 yX4_isSquare wsX4_isSquare) := goodIn_app (goodIn_of _ (by decide +kernel)) ggX4_grant_X4_isSquare
set_option maxRecDepth 20000 in
theorem ggX4_grant_X4_saves : GoodIn wsX4_grant wsX4_saves := goodIn_r _ [22, 23, 24, 25, 26, 27, 4, 28, 33, 34, 35, 36, 37, 38, 39, 40, 41, 42, 43, 44, 45, 46, 47] (by decide +kernel) (by decide +kernel)
set_option maxRecDepth 20000 in
theorem gX4_grant_X4_saves : GoodIn wsX4_grant (wsV RX4 95 RX4 yX4_saves wsX4_saves) := goodIn_app (goodIn_of _ (by decide +kernel)) ggX4_grant_X4_saves
set_option maxRecDepth 20000 in
theorem ggX4_grant_X4_becomes : GoodIn wsX4_grant wsX4_becomes := goodIn_r _ [32, 25, 33, 34, 35, 36, 37, 38, 39, 40, 41, 42, 43, 44, 45, 46, 47] (by decide +kernel) (by decide +kernel)
set_option maxRecDepth 20000 in
theorem gX4_grant_X4_becomes : GoodIn wsX4_grant (wsV RX4 69 RX4 yX4_becomes wsX4_becomes) := goodIn_app (goodIn_of _ (by decide +kernel)) ggX4_grant_X4_becomes
theorem dX4_grant_0 : decode cX4_grant 0 = .ok (.aload_n 0, 1) := by decide +kernel
theorem dX4_grant_1 : decode cX4_grant 1 = .ok (.iconst 0, 1) := by decide +kernel
theorem dX4_grant_2 : decode cX4_grant 2 = .ok (.putfield 37, 3) := by decide +kernel
theorem dX4_grant_5 : decode cX4_grant 5 = .ok (.iload_n 1, 1) := by decide +kernel
theorem dX4_grant_6 : decode cX4_grant 6 = .ok (.iload_n 2, 1) := by decide +kernel
theorem dX4_grant_7 : decode cX4_grant 7 = .ok (.invokestatic 82, 3) := by decide +kernel
theorem dX4_grant_10 : decode cX4_grant 10 = .ok (.ifCond .eq 11, 3) := by decide +kernel
theorem dX4_grant_13 : decode cX4_grant 13 = .ok (.iload 4, 2) := by decide +kernel
theorem dX4_grant_15 : decode cX4_grant 15 = .ok (.invokestatic 85, 3) := by decide +kernel
theorem dX4_grant_18 : decode cX4_grant 18 = .ok (.ifCond .ne 9, 3) := by decide +kernel
theorem dX4_grant_21 : decode cX4_grant 21 = .ok (.aload_n 0, 1) := by decide +kernel
theorem dX4_grant_22 : decode cX4_grant 22 = .ok (.iconst 1, 1) := by decide +kernel
theorem dX4_grant_23 : decode cX4_grant 23 = .ok (.invokevirtual 89, 3) := by decide +kernel
theorem dX4_grant_26 : decode cX4_grant 26 = .ok (.ireturn, 1) := by decide +kernel
theorem dX4_grant_27 : decode cX4_grant 27 = .ok (.iload_n 1, 1) := by decide +kernel
theorem dX4_grant_28 : decode cX4_grant 28 = .ok (.iload_n 2, 1) := by decide +kernel
theorem dX4_grant_29 : decode cX4_grant 29 = .ok (.iload_n 3, 1) := by decide +kernel
theorem dX4_grant_30 : decode cX4_grant 30 = .ok (.invokestatic 92, 3) := by decide +kernel
theorem dX4_grant_33 : decode cX4_grant 33 = .ok (.ifCond .ne 9, 3) := by decide +kernel
theorem dX4_grant_36 : decode cX4_grant 36 = .ok (.aload_n 0, 1) := by decide +kernel
theorem dX4_grant_37 : decode cX4_grant 37 = .ok (.iconst 2, 1) := by decide +kernel
theorem dX4_grant_38 : decode cX4_grant 38 = .ok (.invokevirtual 89, 3) := by decide +kernel
theorem dX4_grant_41 : decode cX4_grant 41 = .ok (.ireturn, 1) := by decide +kernel
theorem dX4_grant_42 : decode cX4_grant 42 = .ok (.aload_n 0, 1) := by decide +kernel
theorem dX4_grant_43 : decode cX4_grant 43 = .ok (.invokevirtual 95, 3) := by decide +kernel
theorem dX4_grant_46 : decode cX4_grant 46 = .ok (.aload_n 0, 1) := by decide +kernel
theorem dX4_grant_47 : decode cX4_grant 47 = .ok (.bipush 16, 2) := by decide +kernel
theorem dX4_grant_49 : decode cX4_grant 49 = .ok (.iload_n 2, 1) := by decide +kernel
theorem dX4_grant_50 : decode cX4_grant 50 = .ok (.imul, 1) := by decide +kernel
theorem dX4_grant_51 : decode cX4_grant 51 = .ok (.iload_n 1, 1) := by decide +kernel
theorem dX4_grant_52 : decode cX4_grant 52 = .ok (.iadd, 1) := by decide +kernel
theorem dX4_grant_53 : decode cX4_grant 53 = .ok (.iload_n 3, 1) := by decide +kernel
theorem dX4_grant_54 : decode cX4_grant 54 = .ok (.iload 4, 2) := by decide +kernel
theorem dX4_grant_56 : decode cX4_grant 56 = .ok (.invokevirtual 69, 3) := by decide +kernel
theorem dX4_grant_59 : decode cX4_grant 59 = .ok (.ireturn, 1) := by decide +kernel
set_option maxRecDepth 20000 in
theorem ggX4_raise_X4_isCell : GoodIn wsX4_raise wsX4_isCell := goodIn_r _ [5, 6, 7, 4, 8] (by decide +kernel) (by decide +kernel)
set_option maxRecDepth 20000 in
theorem gX4_raise_X4_isCell : GoodIn wsX4_raise (va_wsS RX4 82 yX4_isCell wsX4_isCell) := goodIn_app (goodIn_of _ (by decide +kernel)) ggX4_raise_X4_isCell
set_option maxRecDepth 20000 in
theorem ggX4_raise_X4_refuses : GoodIn wsX4_raise wsX4_refuses := goodIn_r _ [12, 1, 30, 31, 32, 33, 34, 35, 36, 37, 38, 39, 40, 41, 42, 43, 44] (by decide +kernel) (by decide +kernel)
set_option maxRecDepth 20000 in
theorem gX4_raise_X4_refuses : GoodIn wsX4_raise (wsV RX4 89 RX4 yX4_refuses wsX4_refuses) := goodIn_app (goodIn_of _ (by decide +kernel)) ggX4_raise_X4_refuses
set_option maxRecDepth 20000 in
theorem ggX4_raise_X4_isSquare : GoodIn wsX4_raise wsX4_isSquare := goodIn_r _ [15] (by decide +kernel) (by decide +kernel)
set_option maxRecDepth 20000 in
theorem gX4_raise_X4_isSquare : GoodIn wsX4_raise (va_wsS RX4 92 yX4_isSquare wsX4_isSquare) := goodIn_app (goodIn_of _ (by decide +kernel)) ggX4_raise_X4_isSquare
set_option maxRecDepth 20000 in
theorem ggX4_raise_X4_in : GoodIn wsX4_raise wsX4_in := goodIn_r _ [8] (by decide +kernel) (by decide +kernel)
set_option maxRecDepth 20000 in
theorem gX4_raise_X4_in : GoodIn wsX4_raise (va_wsS RX4 48 yX4_in wsX4_in) := goodIn_app (goodIn_of _ (by decide +kernel)) ggX4_raise_X4_in
set_option maxRecDepth 20000 in
theorem ggX4_raise_X4_saves : GoodIn wsX4_raise wsX4_saves := goodIn_r _ [19, 20, 21, 22, 23, 24, 4, 25, 30, 31, 32, 33, 34, 35, 36, 37, 38, 39, 40, 41, 42, 43, 44] (by decide +kernel) (by decide +kernel)
set_option maxRecDepth 20000 in
theorem gX4_raise_X4_saves : GoodIn wsX4_raise (wsV RX4 95 RX4 yX4_saves wsX4_saves) := goodIn_app (goodIn_of _ (by decide +kernel)) ggX4_raise_X4_saves
set_option maxRecDepth 20000 in
theorem ggX4_raise_X4_raises : GoodIn wsX4_raise wsX4_raises := goodIn_r _ [29, 22, 30, 31, 32, 33, 34, 35, 36, 37, 38, 39, 40, 41, 42, 43, 44] (by decide +kernel) (by decide +kernel)
set_option maxRecDepth 20000 in
theorem gX4_raise_X4_raises : GoodIn wsX4_raise (wsV RX4 98 RX4 yX4_raises wsX4_raises) := goodIn_app (goodIn_of _ (by decide +kernel)) ggX4_raise_X4_raises
theorem dX4_raise_0 : decode cX4_raise 0 = .ok (.aload_n 0, 1) := by decide +kernel
theorem dX4_raise_1 : decode cX4_raise 1 = .ok (.iconst 0, 1) := by decide +kernel
theorem dX4_raise_2 : decode cX4_raise 2 = .ok (.putfield 37, 3) := by decide +kernel
theorem dX4_raise_5 : decode cX4_raise 5 = .ok (.iload_n 1, 1) := by decide +kernel
theorem dX4_raise_6 : decode cX4_raise 6 = .ok (.iload_n 2, 1) := by decide +kernel
theorem dX4_raise_7 : decode cX4_raise 7 = .ok (.invokestatic 82, 3) := by decide +kernel
theorem dX4_raise_10 : decode cX4_raise 10 = .ok (.ifCond .ne 9, 3) := by decide +kernel
theorem dX4_raise_13 : decode cX4_raise 13 = .ok (.aload_n 0, 1) := by decide +kernel
theorem dX4_raise_14 : decode cX4_raise 14 = .ok (.iconst 1, 1) := by decide +kernel
theorem dX4_raise_15 : decode cX4_raise 15 = .ok (.invokevirtual 89, 3) := by decide +kernel
theorem dX4_raise_18 : decode cX4_raise 18 = .ok (.ireturn, 1) := by decide +kernel
theorem dX4_raise_19 : decode cX4_raise 19 = .ok (.iload_n 1, 1) := by decide +kernel
theorem dX4_raise_20 : decode cX4_raise 20 = .ok (.iload_n 2, 1) := by decide +kernel
theorem dX4_raise_21 : decode cX4_raise 21 = .ok (.iload_n 3, 1) := by decide +kernel
theorem dX4_raise_22 : decode cX4_raise 22 = .ok (.invokestatic 92, 3) := by decide +kernel
theorem dX4_raise_25 : decode cX4_raise 25 = .ok (.ifCond .eq 15, 3) := by decide +kernel
theorem dX4_raise_28 : decode cX4_raise 28 = .ok (.iload 4, 2) := by decide +kernel
theorem dX4_raise_30 : decode cX4_raise 30 = .ok (.bipush (-9), 2) := by decide +kernel
theorem dX4_raise_32 : decode cX4_raise 32 = .ok (.bipush 9, 2) := by decide +kernel
theorem dX4_raise_34 : decode cX4_raise 34 = .ok (.invokestatic 48, 3) := by decide +kernel
theorem dX4_raise_37 : decode cX4_raise 37 = .ok (.ifCond .ne 9, 3) := by decide +kernel
theorem dX4_raise_40 : decode cX4_raise 40 = .ok (.aload_n 0, 1) := by decide +kernel
theorem dX4_raise_41 : decode cX4_raise 41 = .ok (.iconst 2, 1) := by decide +kernel
theorem dX4_raise_42 : decode cX4_raise 42 = .ok (.invokevirtual 89, 3) := by decide +kernel
theorem dX4_raise_45 : decode cX4_raise 45 = .ok (.ireturn, 1) := by decide +kernel
theorem dX4_raise_46 : decode cX4_raise 46 = .ok (.aload_n 0, 1) := by decide +kernel
theorem dX4_raise_47 : decode cX4_raise 47 = .ok (.invokevirtual 95, 3) := by decide +kernel
theorem dX4_raise_50 : decode cX4_raise 50 = .ok (.aload_n 0, 1) := by decide +kernel
theorem dX4_raise_51 : decode cX4_raise 51 = .ok (.bipush 16, 2) := by decide +kernel
theorem dX4_raise_53 : decode cX4_raise 53 = .ok (.iload_n 2, 1) := by decide +kernel
theorem dX4_raise_54 : decode cX4_raise 54 = .ok (.imul, 1) := by decide +kernel
theorem dX4_raise_55 : decode cX4_raise 55 = .ok (.iload_n 1, 1) := by decide +kernel
theorem dX4_raise_56 : decode cX4_raise 56 = .ok (.iadd, 1) := by decide +kernel
theorem dX4_raise_57 : decode cX4_raise 57 = .ok (.iload_n 3, 1) := by decide +kernel
theorem dX4_raise_58 : decode cX4_raise 58 = .ok (.iload 4, 2) := by decide +kernel
theorem dX4_raise_60 : decode cX4_raise 60 = .ok (.invokevirtual 98, 3) := by decide +kernel
theorem dX4_raise_63 : decode cX4_raise 63 = .ok (.ireturn, 1) := by decide +kernel
set_option maxRecDepth 20000 in
theorem ggX4_flood_X4_in : GoodIn wsX4_flood wsX4_in := goodIn_r _ [5] (by decide +kernel) (by decide +kernel)
set_option maxRecDepth 20000 in
theorem gX4_flood_X4_in : GoodIn wsX4_flood (va_wsS RX4 48 yX4_in wsX4_in) := goodIn_app (goodIn_of _ (by decide +kernel)) ggX4_flood_X4_in
set_option maxRecDepth 20000 in
theorem ggX4_flood_X4_refuses : GoodIn wsX4_flood wsX4_refuses := goodIn_r _ [9, 1, 24, 25, 26, 27, 28, 29, 30, 31, 32, 33, 34, 35, 36, 37, 38] (by decide +kernel) (by decide +kernel)
set_option maxRecDepth 20000 in
theorem gX4_flood_X4_refuses : GoodIn wsX4_flood (wsV RX4 89 RX4 yX4_refuses wsX4_refuses) := goodIn_app (goodIn_of _ (by decide +kernel)) ggX4_flood_X4_refuses
set_option maxRecDepth 20000 in
theorem ggX4_flood_X4_saves : GoodIn wsX4_flood wsX4_saves := goodIn_r _ [13, 14, 15, 16, 17, 18, 4, 19, 24, 25, 26, 27, 28, 29, 30, 31, 32, 33, 34, 35, 36, 37, 38] (by decide +kernel) (by decide +kernel)
set_option maxRecDepth 20000 in
theorem gX4_flood_X4_saves : GoodIn wsX4_flood (wsV RX4 95 RX4 yX4_saves wsX4_saves) := goodIn_app (goodIn_of _ (by decide +kernel)) ggX4_flood_X4_saves
set_option maxRecDepth 20000 in
theorem ggX4_flood_X4_floodsTo : GoodIn wsX4_flood wsX4_floodsTo := goodIn_r _ [23, 16, 24, 25, 26, 27, 28, 29, 30, 31, 32, 33, 34, 35, 36, 37, 38] (by decide +kernel) (by decide +kernel)
set_option maxRecDepth 20000 in
theorem gX4_flood_X4_floodsTo : GoodIn wsX4_flood (wsV RX4 101 RX4 yX4_floodsTo wsX4_floodsTo) := goodIn_app (goodIn_of _ (by decide +kernel)) ggX4_flood_X4_floodsTo
