theorem dX0_init_0 : decode cX0_init 0 = .ok (.aload_n 0, 1) := by decide +kernel
theorem dX0_init_1 : decode cX0_init 1 = .ok (.invokespecial 3, 3) := by decide +kernel
theorem dX0_init_4 : decode cX0_init 4 = .ok (.aload_n 0, 1) := by decide +kernel
theorem dX0_init_5 : decode cX0_init 5 = .ok (.iconst 0, 1) := by decide +kernel
theorem dX0_init_6 : decode cX0_init 6 = .ok (.putfield 11, 3) := by decide +kernel
theorem dX0_init_9 : decode cX0_init 9 = .ok (.aload_n 0, 1) := by decide +kernel
theorem dX0_init_10 : decode cX0_init 10 = .ok (.bipush 116, 2) := by decide +kernel
theorem dX0_init_12 : decode cX0_init 12 = .ok (.putfield 15, 3) := by decide +kernel
theorem dX0_init_15 : decode cX0_init 15 = .ok (.aload_n 0, 1) := by decide +kernel
theorem dX0_init_16 : decode cX0_init 16 = .ok (.iconst 0, 1) := by decide +kernel
theorem dX0_init_17 : decode cX0_init 17 = .ok (.putfield 19, 3) := by decide +kernel
theorem dX0_init_20 : decode cX0_init 20 = .ok (.aload_n 0, 1) := by decide +kernel
theorem dX0_init_21 : decode cX0_init 21 = .ok (.iconst 0, 1) := by decide +kernel
theorem dX0_init_22 : decode cX0_init 22 = .ok (.putfield 22, 3) := by decide +kernel
theorem dX0_init_25 : decode cX0_init 25 = .ok (.aload_n 0, 1) := by decide +kernel
theorem dX0_init_26 : decode cX0_init 26 = .ok (.iconst 1, 1) := by decide +kernel
theorem dX0_init_27 : decode cX0_init 27 = .ok (.putfield 25, 3) := by decide +kernel
theorem dX0_init_30 : decode cX0_init 30 = .ok (.aload_n 0, 1) := by decide +kernel
theorem dX0_init_31 : decode cX0_init 31 = .ok (.iconst 0, 1) := by decide +kernel
theorem dX0_init_32 : decode cX0_init 32 = .ok (.putfield 28, 3) := by decide +kernel
theorem dX0_init_35 : decode cX0_init 35 = .ok (.aload_n 0, 1) := by decide +kernel
theorem dX0_init_36 : decode cX0_init 36 = .ok (.iconst 1, 1) := by decide +kernel
theorem dX0_init_37 : decode cX0_init 37 = .ok (.putfield 32, 3) := by decide +kernel
theorem dX0_init_40 : decode cX0_init 40 = .ok (.return_, 1) := by decide +kernel
theorem dX0_begin_0 : decode cX0_begin 0 = .ok (.aload_n 0, 1) := by decide +kernel
theorem dX0_begin_1 : decode cX0_begin 1 = .ok (.iconst 0, 1) := by decide +kernel
theorem dX0_begin_2 : decode cX0_begin 2 = .ok (.putfield 11, 3) := by decide +kernel
theorem dX0_begin_5 : decode cX0_begin 5 = .ok (.return_, 1) := by decide +kernel
theorem dX0_signedNumber_0 : decode cX0_signedNumber 0 = .ok (.aload_n 0, 1) := by decide +kernel
theorem dX0_signedNumber_1 : decode cX0_signedNumber 1 = .ok (.getfield 28, 3) := by decide +kernel
theorem dX0_signedNumber_4 : decode cX0_signedNumber 4 = .ok (.ifCond .eq 11, 3) := by decide +kernel
theorem dX0_signedNumber_7 : decode cX0_signedNumber 7 = .ok (.aload_n 0, 1) := by decide +kernel
theorem dX0_signedNumber_8 : decode cX0_signedNumber 8 = .ok (.getfield 32, 3) := by decide +kernel
theorem dX0_signedNumber_11 : decode cX0_signedNumber 11 = .ok (.ineg, 1) := by decide +kernel
theorem dX0_signedNumber_12 : decode cX0_signedNumber 12 = .ok (.goto 7, 3) := by decide +kernel
theorem dX0_signedNumber_15 : decode cX0_signedNumber 15 = .ok (.aload_n 0, 1) := by decide +kernel
theorem dX0_signedNumber_16 : decode cX0_signedNumber 16 = .ok (.getfield 32, 3) := by decide +kernel
theorem dX0_signedNumber_19 : decode cX0_signedNumber 19 = .ok (.ireturn, 1) := by decide +kernel
theorem dX0_isAtDeedEnd_0 : decode cX0_isAtDeedEnd 0 = .ok (.aload_n 0, 1) := by decide +kernel
theorem dX0_isAtDeedEnd_1 : decode cX0_isAtDeedEnd 1 = .ok (.getfield 11, 3) := by decide +kernel
theorem dX0_isAtDeedEnd_4 : decode cX0_isAtDeedEnd 4 = .ok (.bipush 8, 2) := by decide +kernel
theorem dX0_isAtDeedEnd_6 : decode cX0_isAtDeedEnd 6 = .ok (.if_icmp .ne 7, 3) := by decide +kernel
theorem dX0_isAtDeedEnd_9 : decode cX0_isAtDeedEnd 9 = .ok (.iconst 1, 1) := by decide +kernel
theorem dX0_isAtDeedEnd_10 : decode cX0_isAtDeedEnd 10 = .ok (.goto 4, 3) := by decide +kernel
theorem dX0_isAtDeedEnd_13 : decode cX0_isAtDeedEnd 13 = .ok (.iconst 0, 1) := by decide +kernel
theorem dX0_isAtDeedEnd_14 : decode cX0_isAtDeedEnd 14 = .ok (.ireturn, 1) := by decide +kernel
set_option maxRecDepth 20000 in
theorem ggX0_accept_X0_acceptKind : GoodIn wsX0_accept wsX0_acceptKind := goodIn_r _ [6, 1, 7, 45, 46, 47, 48, 49, 50, 51] (by decide +kernel) (by decide +kernel)
set_option maxRecDepth 20000 in
theorem gX0_accept_X0_acceptKind : GoodIn wsX0_accept (wsV RX0 35 RX0 yX0_acceptKind wsX0_acceptKind) := goodIn_app (goodIn_of _ (by decide +kernel)) ggX0_accept_X0_acceptKind
set_option maxRecDepth 20000 in
theorem ggX0_accept_X0_acceptPerson : GoodIn wsX0_accept wsX0_acceptPerson := goodIn_r _ [11, 12, 1, 45, 46, 47, 48, 49, 50, 51] (by decide +kernel) (by decide +kernel)
set_option maxRecDepth 20000 in
theorem gX0_accept_X0_acceptPerson : GoodIn wsX0_accept (wsV RX0 39 RX0 yX0_acceptPerson wsX0_acceptPerson) := goodIn_app (goodIn_of _ (by decide +kernel)) ggX0_accept_X0_acceptPerson
set_option maxRecDepth 20000 in
theorem ggX0_accept_X0_acceptX : GoodIn wsX0_accept wsX0_acceptX := goodIn_r _ [16, 17, 1, 45, 46, 47, 48, 49, 50, 51] (by decide +kernel) (by decide +kernel)
set_option maxRecDepth 20000 in
theorem gX0_accept_X0_acceptX : GoodIn wsX0_accept (wsV RX0 42 RX0 yX0_acceptX wsX0_acceptX) := goodIn_app (goodIn_of _ (by decide +kernel)) ggX0_accept_X0_acceptX
set_option maxRecDepth 20000 in
theorem ggX0_accept_X0_acceptY : GoodIn wsX0_accept wsX0_acceptY := goodIn_r _ [21, 22, 7, 1, 45, 46, 47, 48, 49, 50, 51] (by decide +kernel) (by decide +kernel)
set_option maxRecDepth 20000 in
theorem gX0_accept_X0_acceptY : GoodIn wsX0_accept (wsV RX0 45 RX0 yX0_acceptY wsX0_acceptY) := goodIn_app (goodIn_of _ (by decide +kernel)) ggX0_accept_X0_acceptY
set_option maxRecDepth 20000 in
theorem ggX0_accept_X0_acceptSize : GoodIn wsX0_accept wsX0_acceptSize := goodIn_r _ [26, 27, 1, 45, 46, 47, 48, 49, 50, 51] (by decide +kernel) (by decide +kernel)
set_option maxRecDepth 20000 in
theorem gX0_accept_X0_acceptSize : GoodIn wsX0_accept (wsV RX0 48 RX0 yX0_acceptSize wsX0_acceptSize) := goodIn_app (goodIn_of _ (by decide +kernel)) ggX0_accept_X0_acceptSize
set_option maxRecDepth 20000 in
theorem ggX0_accept_X0_acceptSix : GoodIn wsX0_accept wsX0_acceptSix := goodIn_r _ [31, 27, 1, 45, 46, 47, 48, 49, 50, 51] (by decide +kernel) (by decide +kernel)
set_option maxRecDepth 20000 in
theorem gX0_accept_X0_acceptSix : GoodIn wsX0_accept (wsV RX0 51 RX0 yX0_acceptSix wsX0_acceptSix) := goodIn_app (goodIn_of _ (by decide +kernel)) ggX0_accept_X0_acceptSix
set_option maxRecDepth 20000 in
theorem ggX0_accept_X0_acceptSign : GoodIn wsX0_accept wsX0_acceptSign := goodIn_r _ [35, 7, 36, 1, 45, 46, 47, 48, 49, 50, 51] (by decide +kernel) (by decide +kernel)
set_option maxRecDepth 20000 in
theorem gX0_accept_X0_acceptSign : GoodIn wsX0_accept (wsV RX0 54 RX0 yX0_acceptSign wsX0_acceptSign) := goodIn_app (goodIn_of _ (by decide +kernel)) ggX0_accept_X0_acceptSign
set_option maxRecDepth 20000 in
theorem ggX0_accept_X0_acceptNumber : GoodIn wsX0_accept wsX0_acceptNumber := goodIn_r _ [40, 7, 12, 1, 45, 46, 47, 48, 49, 50, 51] (by decide +kernel) (by decide +kernel)
set_option maxRecDepth 20000 in
theorem gX0_accept_X0_acceptNumber : GoodIn wsX0_accept (wsV RX0 57 RX0 yX0_acceptNumber wsX0_acceptNumber) := goodIn_app (goodIn_of _ (by decide +kernel)) ggX0_accept_X0_acceptNumber
set_option maxRecDepth 20000 in
theorem ggX0_accept_X0_acceptSeparator : GoodIn wsX0_accept wsX0_acceptSeparator := goodIn_r _ [44, 1, 45, 46, 47, 48, 49, 50, 51] (by decide +kernel) (by decide +kernel)
set_option maxRecDepth 20000 in
theorem gX0_accept_X0_acceptSeparator : GoodIn wsX0_accept (wsV RX0 60 RX0 yX0_acceptSeparator wsX0_acceptSeparator) := goodIn_app (goodIn_of _ (by decide +kernel)) ggX0_accept_X0_acceptSeparator
theorem dX0_accept_0 : decode cX0_accept 0 = .ok (.aload_n 0, 1) := by decide +kernel
theorem dX0_accept_1 : decode cX0_accept 1 = .ok (.getfield 11, 3) := by decide +kernel
theorem dX0_accept_4 : decode cX0_accept 4 = .ok (.tableswitch 112 0 7 #[48, 54, 60, 66, 72, 78, 100, 106], 48) := by decide +kernel
theorem dX0_accept_52 : decode cX0_accept 52 = .ok (.aload_n 0, 1) := by decide +kernel
theorem dX0_accept_53 : decode cX0_accept 53 = .ok (.iload_n 1, 1) := by decide +kernel
theorem dX0_accept_54 : decode cX0_accept 54 = .ok (.invokevirtual 35, 3) := by decide +kernel
theorem dX0_accept_57 : decode cX0_accept 57 = .ok (.ireturn, 1) := by decide +kernel
theorem dX0_accept_58 : decode cX0_accept 58 = .ok (.aload_n 0, 1) := by decide +kernel
theorem dX0_accept_59 : decode cX0_accept 59 = .ok (.iload_n 1, 1) := by decide +kernel
theorem dX0_accept_60 : decode cX0_accept 60 = .ok (.invokevirtual 39, 3) := by decide +kernel
theorem dX0_accept_63 : decode cX0_accept 63 = .ok (.ireturn, 1) := by decide +kernel
theorem dX0_accept_64 : decode cX0_accept 64 = .ok (.aload_n 0, 1) := by decide +kernel
theorem dX0_accept_65 : decode cX0_accept 65 = .ok (.iload_n 1, 1) := by decide +kernel
theorem dX0_accept_66 : decode cX0_accept 66 = .ok (.invokevirtual 42, 3) := by decide +kernel
theorem dX0_accept_69 : decode cX0_accept 69 = .ok (.ireturn, 1) := by decide +kernel
theorem dX0_accept_70 : decode cX0_accept 70 = .ok (.aload_n 0, 1) := by decide +kernel
theorem dX0_accept_71 : decode cX0_accept 71 = .ok (.iload_n 1, 1) := by decide +kernel
theorem dX0_accept_72 : decode cX0_accept 72 = .ok (.invokevirtual 45, 3) := by decide +kernel
theorem dX0_accept_75 : decode cX0_accept 75 = .ok (.ireturn, 1) := by decide +kernel
theorem dX0_accept_76 : decode cX0_accept 76 = .ok (.aload_n 0, 1) := by decide +kernel
theorem dX0_accept_77 : decode cX0_accept 77 = .ok (.iload_n 1, 1) := by decide +kernel
theorem dX0_accept_78 : decode cX0_accept 78 = .ok (.invokevirtual 48, 3) := by decide +kernel
theorem dX0_accept_81 : decode cX0_accept 81 = .ok (.ireturn, 1) := by decide +kernel
theorem dX0_accept_82 : decode cX0_accept 82 = .ok (.aload_n 0, 1) := by decide +kernel
theorem dX0_accept_83 : decode cX0_accept 83 = .ok (.iload_n 1, 1) := by decide +kernel
theorem dX0_accept_84 : decode cX0_accept 84 = .ok (.invokevirtual 51, 3) := by decide +kernel
theorem dX0_accept_87 : decode cX0_accept 87 = .ok (.ifCond .ne 11, 3) := by decide +kernel
theorem dX0_accept_90 : decode cX0_accept 90 = .ok (.aload_n 0, 1) := by decide +kernel
theorem dX0_accept_91 : decode cX0_accept 91 = .ok (.iload_n 1, 1) := by decide +kernel
theorem dX0_accept_92 : decode cX0_accept 92 = .ok (.invokevirtual 54, 3) := by decide +kernel
theorem dX0_accept_95 : decode cX0_accept 95 = .ok (.ifCond .eq 7, 3) := by decide +kernel
theorem dX0_accept_98 : decode cX0_accept 98 = .ok (.iconst 1, 1) := by decide +kernel
theorem dX0_accept_99 : decode cX0_accept 99 = .ok (.goto 4, 3) := by decide +kernel
theorem dX0_accept_102 : decode cX0_accept 102 = .ok (.iconst 0, 1) := by decide +kernel
theorem dX0_accept_103 : decode cX0_accept 103 = .ok (.ireturn, 1) := by decide +kernel
theorem dX0_accept_104 : decode cX0_accept 104 = .ok (.aload_n 0, 1) := by decide +kernel
theorem dX0_accept_105 : decode cX0_accept 105 = .ok (.iload_n 1, 1) := by decide +kernel
theorem dX0_accept_106 : decode cX0_accept 106 = .ok (.invokevirtual 54, 3) := by decide +kernel
theorem dX0_accept_109 : decode cX0_accept 109 = .ok (.ireturn, 1) := by decide +kernel
theorem dX0_accept_110 : decode cX0_accept 110 = .ok (.aload_n 0, 1) := by decide +kernel
theorem dX0_accept_111 : decode cX0_accept 111 = .ok (.iload_n 1, 1) := by decide +kernel
theorem dX0_accept_112 : decode cX0_accept 112 = .ok (.invokevirtual 57, 3) := by decide +kernel
theorem dX0_accept_115 : decode cX0_accept 115 = .ok (.ireturn, 1) := by decide +kernel
theorem dX0_accept_116 : decode cX0_accept 116 = .ok (.aload_n 0, 1) := by decide +kernel
theorem dX0_accept_117 : decode cX0_accept 117 = .ok (.iload_n 1, 1) := by decide +kernel
theorem dX0_accept_118 : decode cX0_accept 118 = .ok (.invokevirtual 60, 3) := by decide +kernel
theorem dX0_accept_121 : decode cX0_accept 121 = .ok (.ireturn, 1) := by decide +kernel
theorem dX0_acceptKind_0 : decode cX0_acceptKind 0 = .ok (.iload_n 1, 1) := by decide +kernel
theorem dX0_acceptKind_1 : decode cX0_acceptKind 1 = .ok (.bipush 103, 2) := by decide +kernel
theorem dX0_acceptKind_3 : decode cX0_acceptKind 3 = .ok (.if_icmp .eq 9, 3) := by decide +kernel
theorem dX0_acceptKind_6 : decode cX0_acceptKind 6 = .ok (.iload_n 1, 1) := by decide +kernel
theorem dX0_acceptKind_7 : decode cX0_acceptKind 7 = .ok (.bipush 114, 2) := by decide +kernel
theorem dX0_acceptKind_9 : decode cX0_acceptKind 9 = .ok (.if_icmp .ne 11, 3) := by decide +kernel
theorem dX0_acceptKind_12 : decode cX0_acceptKind 12 = .ok (.aload_n 0, 1) := by decide +kernel
theorem dX0_acceptKind_13 : decode cX0_acceptKind 13 = .ok (.iconst 2, 1) := by decide +kernel
theorem dX0_acceptKind_14 : decode cX0_acceptKind 14 = .ok (.putfield 11, 3) := by decide +kernel
theorem dX0_acceptKind_17 : decode cX0_acceptKind 17 = .ok (.goto 49, 3) := by decide +kernel
theorem dX0_acceptKind_20 : decode cX0_acceptKind 20 = .ok (.iload_n 1, 1) := by decide +kernel
theorem dX0_acceptKind_21 : decode cX0_acceptKind 21 = .ok (.bipush 98, 2) := by decide +kernel
theorem dX0_acceptKind_23 : decode cX0_acceptKind 23 = .ok (.if_icmp .ne 11, 3) := by decide +kernel
theorem dX0_acceptKind_26 : decode cX0_acceptKind 26 = .ok (.aload_n 0, 1) := by decide +kernel
theorem dX0_acceptKind_27 : decode cX0_acceptKind 27 = .ok (.iconst 1, 1) := by decide +kernel
theorem dX0_acceptKind_28 : decode cX0_acceptKind 28 = .ok (.putfield 11, 3) := by decide +kernel
theorem dX0_acceptKind_31 : decode cX0_acceptKind 31 = .ok (.goto 35, 3) := by decide +kernel
theorem dX0_acceptKind_34 : decode cX0_acceptKind 34 = .ok (.iload_n 1, 1) := by decide +kernel
theorem dX0_acceptKind_35 : decode cX0_acceptKind 35 = .ok (.bipush 102, 2) := by decide +kernel
theorem dX0_acceptKind_37 : decode cX0_acceptKind 37 = .ok (.if_icmp .ne 12, 3) := by decide +kernel
theorem dX0_acceptKind_40 : decode cX0_acceptKind 40 = .ok (.aload_n 0, 1) := by decide +kernel
theorem dX0_acceptKind_41 : decode cX0_acceptKind 41 = .ok (.bipush 7, 2) := by decide +kernel
theorem dX0_acceptKind_43 : decode cX0_acceptKind 43 = .ok (.putfield 11, 3) := by decide +kernel
theorem dX0_acceptKind_46 : decode cX0_acceptKind 46 = .ok (.goto 20, 3) := by decide +kernel
theorem dX0_acceptKind_49 : decode cX0_acceptKind 49 = .ok (.iload_n 1, 1) := by decide +kernel
theorem dX0_acceptKind_50 : decode cX0_acceptKind 50 = .ok (.bipush 116, 2) := by decide +kernel
theorem dX0_acceptKind_52 : decode cX0_acceptKind 52 = .ok (.if_icmp .ne 12, 3) := by decide +kernel
theorem dX0_acceptKind_55 : decode cX0_acceptKind 55 = .ok (.aload_n 0, 1) := by decide +kernel
theorem dX0_acceptKind_56 : decode cX0_acceptKind 56 = .ok (.bipush 8, 2) := by decide +kernel
theorem dX0_acceptKind_58 : decode cX0_acceptKind 58 = .ok (.putfield 11, 3) := by decide +kernel
theorem dX0_acceptKind_61 : decode cX0_acceptKind 61 = .ok (.goto 5, 3) := by decide +kernel
theorem dX0_acceptKind_64 : decode cX0_acceptKind 64 = .ok (.iconst 0, 1) := by decide +kernel
theorem dX0_acceptKind_65 : decode cX0_acceptKind 65 = .ok (.ireturn, 1) := by decide +kernel
theorem dX0_acceptKind_66 : decode cX0_acceptKind 66 = .ok (.aload_n 0, 1) := by decide +kernel
theorem dX0_acceptKind_67 : decode cX0_acceptKind 67 = .ok (.iload_n 1, 1) := by decide +kernel
theorem dX0_acceptKind_68 : decode cX0_acceptKind 68 = .ok (.putfield 15, 3) := by decide +kernel
theorem dX0_acceptKind_71 : decode cX0_acceptKind 71 = .ok (.iconst 1, 1) := by decide +kernel
theorem dX0_acceptKind_72 : decode cX0_acceptKind 72 = .ok (.ireturn, 1) := by decide +kernel
theorem dX0_acceptPerson_0 : decode cX0_acceptPerson 0 = .ok (.iload_n 1, 1) := by decide +kernel
theorem dX0_acceptPerson_1 : decode cX0_acceptPerson 1 = .ok (.bipush 49, 2) := by decide +kernel
theorem dX0_acceptPerson_3 : decode cX0_acceptPerson 3 = .ok (.if_icmp .lt 9, 3) := by decide +kernel
theorem dX0_acceptPerson_6 : decode cX0_acceptPerson 6 = .ok (.iload_n 1, 1) := by decide +kernel
theorem dX0_acceptPerson_7 : decode cX0_acceptPerson 7 = .ok (.bipush 55, 2) := by decide +kernel
theorem dX0_acceptPerson_9 : decode cX0_acceptPerson 9 = .ok (.if_icmp .le 5, 3) := by decide +kernel
theorem dX0_acceptPerson_12 : decode cX0_acceptPerson 12 = .ok (.iconst 0, 1) := by decide +kernel
theorem dX0_acceptPerson_13 : decode cX0_acceptPerson 13 = .ok (.ireturn, 1) := by decide +kernel
theorem dX0_acceptPerson_14 : decode cX0_acceptPerson 14 = .ok (.aload_n 0, 1) := by decide +kernel
theorem dX0_acceptPerson_15 : decode cX0_acceptPerson 15 = .ok (.iload_n 1, 1) := by decide +kernel
theorem dX0_acceptPerson_16 : decode cX0_acceptPerson 16 = .ok (.bipush 48, 2) := by decide +kernel
theorem dX0_acceptPerson_18 : decode cX0_acceptPerson 18 = .ok (.isub, 1) := by decide +kernel
theorem dX0_acceptPerson_19 : decode cX0_acceptPerson 19 = .ok (.putfield 32, 3) := by decide +kernel
theorem dX0_acceptPerson_22 : decode cX0_acceptPerson 22 = .ok (.aload_n 0, 1) := by decide +kernel
theorem dX0_acceptPerson_23 : decode cX0_acceptPerson 23 = .ok (.iconst 2, 1) := by decide +kernel
theorem dX0_acceptPerson_24 : decode cX0_acceptPerson 24 = .ok (.putfield 11, 3) := by decide +kernel
theorem dX0_acceptPerson_27 : decode cX0_acceptPerson 27 = .ok (.iconst 1, 1) := by decide +kernel
theorem dX0_acceptPerson_28 : decode cX0_acceptPerson 28 = .ok (.ireturn, 1) := by decide +kernel
theorem dX0_acceptX_0 : decode cX0_acceptX 0 = .ok (.iload_n 1, 1) := by decide +kernel
theorem dX0_acceptX_1 : decode cX0_acceptX 1 = .ok (.bipush 97, 2) := by decide +kernel
theorem dX0_acceptX_3 : decode cX0_acceptX 3 = .ok (.if_icmp .lt 9, 3) := by decide +kernel
theorem dX0_acceptX_6 : decode cX0_acceptX 6 = .ok (.iload_n 1, 1) := by decide +kernel
theorem dX0_acceptX_7 : decode cX0_acceptX 7 = .ok (.bipush 112, 2) := by decide +kernel
theorem dX0_acceptX_9 : decode cX0_acceptX 9 = .ok (.if_icmp .le 5, 3) := by decide +kernel
theorem dX0_acceptX_12 : decode cX0_acceptX 12 = .ok (.iconst 0, 1) := by decide +kernel
theorem dX0_acceptX_13 : decode cX0_acceptX 13 = .ok (.ireturn, 1) := by decide +kernel
theorem dX0_acceptX_14 : decode cX0_acceptX 14 = .ok (.aload_n 0, 1) := by decide +kernel
theorem dX0_acceptX_15 : decode cX0_acceptX 15 = .ok (.iload_n 1, 1) := by decide +kernel
theorem dX0_acceptX_16 : decode cX0_acceptX 16 = .ok (.bipush 97, 2) := by decide +kernel
theorem dX0_acceptX_18 : decode cX0_acceptX 18 = .ok (.isub, 1) := by decide +kernel
theorem dX0_acceptX_19 : decode cX0_acceptX 19 = .ok (.putfield 19, 3) := by decide +kernel
theorem dX0_acceptX_22 : decode cX0_acceptX 22 = .ok (.aload_n 0, 1) := by decide +kernel
theorem dX0_acceptX_23 : decode cX0_acceptX 23 = .ok (.iconst 3, 1) := by decide +kernel
theorem dX0_acceptX_24 : decode cX0_acceptX 24 = .ok (.putfield 11, 3) := by decide +kernel
theorem dX0_acceptX_27 : decode cX0_acceptX 27 = .ok (.iconst 1, 1) := by decide +kernel
theorem dX0_acceptX_28 : decode cX0_acceptX 28 = .ok (.ireturn, 1) := by decide +kernel
theorem dX0_acceptY_0 : decode cX0_acceptY 0 = .ok (.iload_n 1, 1) := by decide +kernel
theorem dX0_acceptY_1 : decode cX0_acceptY 1 = .ok (.bipush 97, 2) := by decide +kernel
theorem dX0_acceptY_3 : decode cX0_acceptY 3 = .ok (.if_icmp .lt 9, 3) := by decide +kernel
theorem dX0_acceptY_6 : decode cX0_acceptY 6 = .ok (.iload_n 1, 1) := by decide +kernel
theorem dX0_acceptY_7 : decode cX0_acceptY 7 = .ok (.bipush 112, 2) := by decide +kernel
theorem dX0_acceptY_9 : decode cX0_acceptY 9 = .ok (.if_icmp .le 5, 3) := by decide +kernel
theorem dX0_acceptY_12 : decode cX0_acceptY 12 = .ok (.iconst 0, 1) := by decide +kernel
theorem dX0_acceptY_13 : decode cX0_acceptY 13 = .ok (.ireturn, 1) := by decide +kernel
theorem dX0_acceptY_14 : decode cX0_acceptY 14 = .ok (.aload_n 0, 1) := by decide +kernel
theorem dX0_acceptY_15 : decode cX0_acceptY 15 = .ok (.iload_n 1, 1) := by decide +kernel
theorem dX0_acceptY_16 : decode cX0_acceptY 16 = .ok (.bipush 97, 2) := by decide +kernel
theorem dX0_acceptY_18 : decode cX0_acceptY 18 = .ok (.isub, 1) := by decide +kernel
theorem dX0_acceptY_19 : decode cX0_acceptY 19 = .ok (.putfield 22, 3) := by decide +kernel
theorem dX0_acceptY_22 : decode cX0_acceptY 22 = .ok (.aload_n 0, 1) := by decide +kernel
theorem dX0_acceptY_23 : decode cX0_acceptY 23 = .ok (.aload_n 0, 1) := by decide +kernel
theorem dX0_acceptY_24 : decode cX0_acceptY 24 = .ok (.getfield 15, 3) := by decide +kernel
theorem dX0_acceptY_27 : decode cX0_acceptY 27 = .ok (.bipush 98, 2) := by decide +kernel
theorem dX0_acceptY_29 : decode cX0_acceptY 29 = .ok (.if_icmp .ne 8, 3) := by decide +kernel
theorem dX0_acceptY_32 : decode cX0_acceptY 32 = .ok (.bipush 8, 2) := by decide +kernel
theorem dX0_acceptY_34 : decode cX0_acceptY 34 = .ok (.goto 4, 3) := by decide +kernel
theorem dX0_acceptY_37 : decode cX0_acceptY 37 = .ok (.iconst 4, 1) := by decide +kernel
theorem dX0_acceptY_38 : decode cX0_acceptY 38 = .ok (.putfield 11, 3) := by decide +kernel
theorem dX0_acceptY_41 : decode cX0_acceptY 41 = .ok (.iconst 1, 1) := by decide +kernel
theorem dX0_acceptY_42 : decode cX0_acceptY 42 = .ok (.ireturn, 1) := by decide +kernel
theorem dX0_acceptSize_0 : decode cX0_acceptSize 0 = .ok (.iload_n 1, 1) := by decide +kernel
theorem dX0_acceptSize_1 : decode cX0_acceptSize 1 = .ok (.bipush 49, 2) := by decide +kernel
theorem dX0_acceptSize_3 : decode cX0_acceptSize 3 = .ok (.if_icmp .eq 23, 3) := by decide +kernel
theorem dX0_acceptSize_6 : decode cX0_acceptSize 6 = .ok (.iload_n 1, 1) := by decide +kernel
theorem dX0_acceptSize_7 : decode cX0_acceptSize 7 = .ok (.bipush 50, 2) := by decide +kernel
theorem dX0_acceptSize_9 : decode cX0_acceptSize 9 = .ok (.if_icmp .eq 17, 3) := by decide +kernel
theorem dX0_acceptSize_12 : decode cX0_acceptSize 12 = .ok (.iload_n 1, 1) := by decide +kernel
theorem dX0_acceptSize_13 : decode cX0_acceptSize 13 = .ok (.bipush 52, 2) := by decide +kernel
theorem dX0_acceptSize_15 : decode cX0_acceptSize 15 = .ok (.if_icmp .eq 11, 3) := by decide +kernel
theorem dX0_acceptSize_18 : decode cX0_acceptSize 18 = .ok (.iload_n 1, 1) := by decide +kernel
theorem dX0_acceptSize_19 : decode cX0_acceptSize 19 = .ok (.bipush 56, 2) := by decide +kernel
theorem dX0_acceptSize_21 : decode cX0_acceptSize 21 = .ok (.if_icmp .eq 5, 3) := by decide +kernel
theorem dX0_acceptSize_24 : decode cX0_acceptSize 24 = .ok (.iconst 0, 1) := by decide +kernel
theorem dX0_acceptSize_25 : decode cX0_acceptSize 25 = .ok (.ireturn, 1) := by decide +kernel
theorem dX0_acceptSize_26 : decode cX0_acceptSize 26 = .ok (.aload_n 0, 1) := by decide +kernel
theorem dX0_acceptSize_27 : decode cX0_acceptSize 27 = .ok (.iload_n 1, 1) := by decide +kernel
theorem dX0_acceptSize_28 : decode cX0_acceptSize 28 = .ok (.bipush 48, 2) := by decide +kernel
theorem dX0_acceptSize_30 : decode cX0_acceptSize 30 = .ok (.isub, 1) := by decide +kernel
theorem dX0_acceptSize_31 : decode cX0_acceptSize 31 = .ok (.putfield 25, 3) := by decide +kernel
theorem dX0_acceptSize_34 : decode cX0_acceptSize 34 = .ok (.aload_n 0, 1) := by decide +kernel
theorem dX0_acceptSize_35 : decode cX0_acceptSize 35 = .ok (.iload_n 1, 1) := by decide +kernel
theorem dX0_acceptSize_36 : decode cX0_acceptSize 36 = .ok (.bipush 49, 2) := by decide +kernel
theorem dX0_acceptSize_38 : decode cX0_acceptSize 38 = .ok (.if_icmp .ne 7, 3) := by decide +kernel
theorem dX0_acceptSize_41 : decode cX0_acceptSize 41 = .ok (.iconst 5, 1) := by decide +kernel
theorem dX0_acceptSize_42 : decode cX0_acceptSize 42 = .ok (.goto 5, 3) := by decide +kernel
theorem dX0_acceptSize_45 : decode cX0_acceptSize 45 = .ok (.bipush 6, 2) := by decide +kernel
theorem dX0_acceptSize_47 : decode cX0_acceptSize 47 = .ok (.putfield 11, 3) := by decide +kernel
theorem dX0_acceptSize_50 : decode cX0_acceptSize 50 = .ok (.iconst 1, 1) := by decide +kernel
theorem dX0_acceptSize_51 : decode cX0_acceptSize 51 = .ok (.ireturn, 1) := by decide +kernel
theorem dX0_acceptSix_0 : decode cX0_acceptSix 0 = .ok (.iload_n 1, 1) := by decide +kernel
theorem dX0_acceptSix_1 : decode cX0_acceptSix 1 = .ok (.bipush 54, 2) := by decide +kernel
theorem dX0_acceptSix_3 : decode cX0_acceptSix 3 = .ok (.if_icmp .eq 5, 3) := by decide +kernel
theorem dX0_acceptSix_6 : decode cX0_acceptSix 6 = .ok (.iconst 0, 1) := by decide +kernel
theorem dX0_acceptSix_7 : decode cX0_acceptSix 7 = .ok (.ireturn, 1) := by decide +kernel
theorem dX0_acceptSix_8 : decode cX0_acceptSix 8 = .ok (.aload_n 0, 1) := by decide +kernel
theorem dX0_acceptSix_9 : decode cX0_acceptSix 9 = .ok (.bipush 16, 2) := by decide +kernel
theorem dX0_acceptSix_11 : decode cX0_acceptSix 11 = .ok (.putfield 25, 3) := by decide +kernel
theorem dX0_acceptSix_14 : decode cX0_acceptSix 14 = .ok (.aload_n 0, 1) := by decide +kernel
theorem dX0_acceptSix_15 : decode cX0_acceptSix 15 = .ok (.bipush 6, 2) := by decide +kernel
theorem dX0_acceptSix_17 : decode cX0_acceptSix 17 = .ok (.putfield 11, 3) := by decide +kernel
theorem dX0_acceptSix_20 : decode cX0_acceptSix 20 = .ok (.iconst 1, 1) := by decide +kernel
theorem dX0_acceptSix_21 : decode cX0_acceptSix 21 = .ok (.ireturn, 1) := by decide +kernel
theorem dX0_acceptSign_0 : decode cX0_acceptSign 0 = .ok (.aload_n 0, 1) := by decide +kernel
theorem dX0_acceptSign_1 : decode cX0_acceptSign 1 = .ok (.getfield 15, 3) := by decide +kernel
theorem dX0_acceptSign_4 : decode cX0_acceptSign 4 = .ok (.bipush 103, 2) := by decide +kernel
theorem dX0_acceptSign_6 : decode cX0_acceptSign 6 = .ok (.if_icmp .ne 17, 3) := by decide +kernel
theorem dX0_acceptSign_9 : decode cX0_acceptSign 9 = .ok (.iload_n 1, 1) := by decide +kernel
theorem dX0_acceptSign_10 : decode cX0_acceptSign 10 = .ok (.bipush 61, 2) := by decide +kernel
theorem dX0_acceptSign_12 : decode cX0_acceptSign 12 = .ok (.if_icmp .ne 7, 3) := by decide +kernel
theorem dX0_acceptSign_15 : decode cX0_acceptSign 15 = .ok (.iconst 1, 1) := by decide +kernel
theorem dX0_acceptSign_16 : decode cX0_acceptSign 16 = .ok (.goto 24, 3) := by decide +kernel
theorem dX0_acceptSign_19 : decode cX0_acceptSign 19 = .ok (.iconst 0, 1) := by decide +kernel
theorem dX0_acceptSign_20 : decode cX0_acceptSign 20 = .ok (.goto 20, 3) := by decide +kernel
theorem dX0_acceptSign_23 : decode cX0_acceptSign 23 = .ok (.iload_n 1, 1) := by decide +kernel
theorem dX0_acceptSign_24 : decode cX0_acceptSign 24 = .ok (.bipush 43, 2) := by decide +kernel
theorem dX0_acceptSign_26 : decode cX0_acceptSign 26 = .ok (.if_icmp .eq 9, 3) := by decide +kernel
theorem dX0_acceptSign_29 : decode cX0_acceptSign 29 = .ok (.iload_n 1, 1) := by decide +kernel
theorem dX0_acceptSign_30 : decode cX0_acceptSign 30 = .ok (.bipush 45, 2) := by decide +kernel
theorem dX0_acceptSign_32 : decode cX0_acceptSign 32 = .ok (.if_icmp .ne 7, 3) := by decide +kernel
theorem dX0_acceptSign_35 : decode cX0_acceptSign 35 = .ok (.iconst 1, 1) := by decide +kernel
theorem dX0_acceptSign_36 : decode cX0_acceptSign 36 = .ok (.goto 4, 3) := by decide +kernel
theorem dX0_acceptSign_39 : decode cX0_acceptSign 39 = .ok (.iconst 0, 1) := by decide +kernel
theorem dX0_acceptSign_40 : decode cX0_acceptSign 40 = .ok (.istore_n 2, 1) := by decide +kernel
theorem dX0_acceptSign_41 : decode cX0_acceptSign 41 = .ok (.iload_n 2, 1) := by decide +kernel
theorem dX0_acceptSign_42 : decode cX0_acceptSign 42 = .ok (.ifCond .ne 5, 3) := by decide +kernel
theorem dX0_acceptSign_45 : decode cX0_acceptSign 45 = .ok (.iconst 0, 1) := by decide +kernel
theorem dX0_acceptSign_46 : decode cX0_acceptSign 46 = .ok (.ireturn, 1) := by decide +kernel
theorem dX0_acceptSign_47 : decode cX0_acceptSign 47 = .ok (.aload_n 0, 1) := by decide +kernel
theorem dX0_acceptSign_48 : decode cX0_acceptSign 48 = .ok (.iload_n 1, 1) := by decide +kernel
theorem dX0_acceptSign_49 : decode cX0_acceptSign 49 = .ok (.bipush 45, 2) := by decide +kernel
theorem dX0_acceptSign_51 : decode cX0_acceptSign 51 = .ok (.if_icmp .ne 7, 3) := by decide +kernel
theorem dX0_acceptSign_54 : decode cX0_acceptSign 54 = .ok (.iconst 1, 1) := by decide +kernel
theorem dX0_acceptSign_55 : decode cX0_acceptSign 55 = .ok (.goto 4, 3) := by decide +kernel
theorem dX0_acceptSign_58 : decode cX0_acceptSign 58 = .ok (.iconst 0, 1) := by decide +kernel
theorem dX0_acceptSign_59 : decode cX0_acceptSign 59 = .ok (.putfield 28, 3) := by decide +kernel
theorem dX0_acceptSign_62 : decode cX0_acceptSign 62 = .ok (.aload_n 0, 1) := by decide +kernel
theorem dX0_acceptSign_63 : decode cX0_acceptSign 63 = .ok (.bipush 7, 2) := by decide +kernel
theorem dX0_acceptSign_65 : decode cX0_acceptSign 65 = .ok (.putfield 11, 3) := by decide +kernel
theorem dX0_acceptSign_68 : decode cX0_acceptSign 68 = .ok (.iconst 1, 1) := by decide +kernel
theorem dX0_acceptSign_69 : decode cX0_acceptSign 69 = .ok (.ireturn, 1) := by decide +kernel
theorem dX0_acceptNumber_0 : decode cX0_acceptNumber 0 = .ok (.aload_n 0, 1) := by decide +kernel
theorem dX0_acceptNumber_1 : decode cX0_acceptNumber 1 = .ok (.getfield 15, 3) := by decide +kernel
theorem dX0_acceptNumber_4 : decode cX0_acceptNumber 4 = .ok (.bipush 103, 2) := by decide +kernel
theorem dX0_acceptNumber_6 : decode cX0_acceptNumber 6 = .ok (.if_icmp .ne 23, 3) := by decide +kernel
theorem dX0_acceptNumber_9 : decode cX0_acceptNumber 9 = .ok (.iload_n 1, 1) := by decide +kernel
theorem dX0_acceptNumber_10 : decode cX0_acceptNumber 10 = .ok (.bipush 48, 2) := by decide +kernel
theorem dX0_acceptNumber_12 : decode cX0_acceptNumber 12 = .ok (.if_icmp .lt 13, 3) := by decide +kernel
theorem dX0_acceptNumber_15 : decode cX0_acceptNumber 15 = .ok (.iload_n 1, 1) := by decide +kernel
theorem dX0_acceptNumber_16 : decode cX0_acceptNumber 16 = .ok (.bipush 55, 2) := by decide +kernel
theorem dX0_acceptNumber_18 : decode cX0_acceptNumber 18 = .ok (.if_icmp .gt 7, 3) := by decide +kernel
theorem dX0_acceptNumber_21 : decode cX0_acceptNumber 21 = .ok (.iconst 1, 1) := by decide +kernel
theorem dX0_acceptNumber_22 : decode cX0_acceptNumber 22 = .ok (.goto 24, 3) := by decide +kernel
theorem dX0_acceptNumber_25 : decode cX0_acceptNumber 25 = .ok (.iconst 0, 1) := by decide +kernel
theorem dX0_acceptNumber_26 : decode cX0_acceptNumber 26 = .ok (.goto 20, 3) := by decide +kernel
theorem dX0_acceptNumber_29 : decode cX0_acceptNumber 29 = .ok (.iload_n 1, 1) := by decide +kernel
theorem dX0_acceptNumber_30 : decode cX0_acceptNumber 30 = .ok (.bipush 49, 2) := by decide +kernel
theorem dX0_acceptNumber_32 : decode cX0_acceptNumber 32 = .ok (.if_icmp .lt 13, 3) := by decide +kernel
theorem dX0_acceptNumber_35 : decode cX0_acceptNumber 35 = .ok (.iload_n 1, 1) := by decide +kernel
theorem dX0_acceptNumber_36 : decode cX0_acceptNumber 36 = .ok (.bipush 57, 2) := by decide +kernel
theorem dX0_acceptNumber_38 : decode cX0_acceptNumber 38 = .ok (.if_icmp .gt 7, 3) := by decide +kernel
theorem dX0_acceptNumber_41 : decode cX0_acceptNumber 41 = .ok (.iconst 1, 1) := by decide +kernel
theorem dX0_acceptNumber_42 : decode cX0_acceptNumber 42 = .ok (.goto 4, 3) := by decide +kernel
theorem dX0_acceptNumber_45 : decode cX0_acceptNumber 45 = .ok (.iconst 0, 1) := by decide +kernel
theorem dX0_acceptNumber_46 : decode cX0_acceptNumber 46 = .ok (.istore_n 2, 1) := by decide +kernel
theorem dX0_acceptNumber_47 : decode cX0_acceptNumber 47 = .ok (.iload_n 2, 1) := by decide +kernel
theorem dX0_acceptNumber_48 : decode cX0_acceptNumber 48 = .ok (.ifCond .ne 5, 3) := by decide +kernel
theorem dX0_acceptNumber_51 : decode cX0_acceptNumber 51 = .ok (.iconst 0, 1) := by decide +kernel
theorem dX0_acceptNumber_52 : decode cX0_acceptNumber 52 = .ok (.ireturn, 1) := by decide +kernel
theorem dX0_acceptNumber_53 : decode cX0_acceptNumber 53 = .ok (.aload_n 0, 1) := by decide +kernel
theorem dX0_acceptNumber_54 : decode cX0_acceptNumber 54 = .ok (.iload_n 1, 1) := by decide +kernel
theorem dX0_acceptNumber_55 : decode cX0_acceptNumber 55 = .ok (.bipush 48, 2) := by decide +kernel
theorem dX0_acceptNumber_57 : decode cX0_acceptNumber 57 = .ok (.isub, 1) := by decide +kernel
theorem dX0_acceptNumber_58 : decode cX0_acceptNumber 58 = .ok (.putfield 32, 3) := by decide +kernel
theorem dX0_acceptNumber_61 : decode cX0_acceptNumber 61 = .ok (.aload_n 0, 1) := by decide +kernel
theorem dX0_acceptNumber_62 : decode cX0_acceptNumber 62 = .ok (.bipush 8, 2) := by decide +kernel
theorem dX0_acceptNumber_64 : decode cX0_acceptNumber 64 = .ok (.putfield 11, 3) := by decide +kernel
theorem dX0_acceptNumber_67 : decode cX0_acceptNumber 67 = .ok (.iconst 1, 1) := by decide +kernel
theorem dX0_acceptNumber_68 : decode cX0_acceptNumber 68 = .ok (.ireturn, 1) := by decide +kernel
theorem dX0_acceptSeparator_0 : decode cX0_acceptSeparator 0 = .ok (.iload_n 1, 1) := by decide +kernel
theorem dX0_acceptSeparator_1 : decode cX0_acceptSeparator 1 = .ok (.bipush 59, 2) := by decide +kernel
theorem dX0_acceptSeparator_3 : decode cX0_acceptSeparator 3 = .ok (.if_icmp .eq 5, 3) := by decide +kernel
theorem dX0_acceptSeparator_6 : decode cX0_acceptSeparator 6 = .ok (.iconst 0, 1) := by decide +kernel
theorem dX0_acceptSeparator_7 : decode cX0_acceptSeparator 7 = .ok (.ireturn, 1) := by decide +kernel
theorem dX0_acceptSeparator_8 : decode cX0_acceptSeparator 8 = .ok (.aload_n 0, 1) := by decide +kernel
theorem dX0_acceptSeparator_9 : decode cX0_acceptSeparator 9 = .ok (.iconst 0, 1) := by decide +kernel
theorem dX0_acceptSeparator_10 : decode cX0_acceptSeparator 10 = .ok (.putfield 11, 3) := by decide +kernel
theorem dX0_acceptSeparator_13 : decode cX0_acceptSeparator 13 = .ok (.iconst 1, 1) := by decide +kernel
theorem dX0_acceptSeparator_14 : decode cX0_acceptSeparator 14 = .ok (.ireturn, 1) := by decide +kernel
