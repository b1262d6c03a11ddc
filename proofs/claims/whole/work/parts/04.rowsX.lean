theorem dX0_init_0 : decode cX0_init 0 = .ok (.aload_n 0, 1) := by decide +kernel
theorem dX0_init_1 : decode cX0_init 1 = .ok (.invokespecial 3, 3) := by decide +kernel
theorem dX0_init_4 : decode cX0_init 4 = .ok (.aload_n 0, 1) := by decide +kernel
theorem dX0_init_5 : decode cX0_init 5 = .ok (.sipush 4225, 3) := by decide +kernel
theorem dX0_init_8 : decode cX0_init 8 = .ok (.newarray .int, 2) := by decide +kernel
theorem dX0_init_10 : decode cX0_init 10 = .ok (.putfield 11, 3) := by decide +kernel
theorem dX0_init_13 : decode cX0_init 13 = .ok (.aload_n 0, 1) := by decide +kernel
theorem dX0_init_14 : decode cX0_init 14 = .ok (.bipush 65, 2) := by decide +kernel
theorem dX0_init_16 : decode cX0_init 16 = .ok (.newarray .int, 2) := by decide +kernel
theorem dX0_init_18 : decode cX0_init 18 = .ok (.putfield 15, 3) := by decide +kernel
theorem dX0_init_21 : decode cX0_init 21 = .ok (.aload_n 0, 1) := by decide +kernel
theorem dX0_init_22 : decode cX0_init 22 = .ok (.bipush 64, 2) := by decide +kernel
theorem dX0_init_24 : decode cX0_init 24 = .ok (.newarray .int, 2) := by decide +kernel
theorem dX0_init_26 : decode cX0_init 26 = .ok (.putfield 18, 3) := by decide +kernel
theorem dX0_init_29 : decode cX0_init 29 = .ok (.aload_n 0, 1) := by decide +kernel
theorem dX0_init_30 : decode cX0_init 30 = .ok (.bipush 64, 2) := by decide +kernel
theorem dX0_init_32 : decode cX0_init 32 = .ok (.newarray .int, 2) := by decide +kernel
theorem dX0_init_34 : decode cX0_init 34 = .ok (.putfield 21, 3) := by decide +kernel
theorem dX0_init_37 : decode cX0_init 37 = .ok (.aload_n 0, 1) := by decide +kernel
theorem dX0_init_38 : decode cX0_init 38 = .ok (.bipush 64, 2) := by decide +kernel
theorem dX0_init_40 : decode cX0_init 40 = .ok (.newarray .int, 2) := by decide +kernel
theorem dX0_init_42 : decode cX0_init 42 = .ok (.putfield 24, 3) := by decide +kernel
theorem dX0_init_45 : decode cX0_init 45 = .ok (.aload_n 0, 1) := by decide +kernel
theorem dX0_init_46 : decode cX0_init 46 = .ok (.aload_n 1, 1) := by decide +kernel
theorem dX0_init_47 : decode cX0_init 47 = .ok (.putfield 27, 3) := by decide +kernel
theorem dX0_init_50 : decode cX0_init 50 = .ok (.aload_n 0, 1) := by decide +kernel
theorem dX0_init_51 : decode cX0_init 51 = .ok (.aload_n 2, 1) := by decide +kernel
theorem dX0_init_52 : decode cX0_init 52 = .ok (.putfield 31, 3) := by decide +kernel
theorem dX0_init_55 : decode cX0_init 55 = .ok (.return_, 1) := by decide +kernel
set_option maxRecDepth 20000 in
theorem ggX0_choose_X4_begin : GoodIn wsX0_choose wsX4_begin := goodIn_r _ [11, 12, 13, 70, 71, 72, 73, 74, 75] (by decide +kernel) (by decide +kernel)
set_option maxRecDepth 20000 in
theorem gX0_choose_X4_begin : GoodIn wsX0_choose (wsV RX0 35 RX4 yX4_begin wsX4_begin) := goodIn_app (goodIn_of _ (by decide +kernel)) ggX0_choose_X4_begin
set_option maxRecDepth 20000 in
theorem ggX0_choose_X0_literalWeight : GoodIn wsX0_choose wsX0_literalWeight := goodIn_r _ [18, 3, 19, 20, 21, 17, 22, 23, 24, 61, 62, 63, 64, 65, 66, 67, 76, 77, 78, 79] (by decide +kernel) (by decide +kernel)
set_option maxRecDepth 20000 in
theorem gX0_choose_X0_literalWeight : GoodIn wsX0_choose (wsV RX0 46 RX0 yX0_literalWeight wsX0_literalWeight) := goodIn_app (goodIn_of _ (by decide +kernel)) ggX0_choose_X0_literalWeight
set_option maxRecDepth 20000 in
theorem ggX0_choose_X4_add : GoodIn wsX0_choose wsX4_add := goodIn_r _ [28, 13, 29, 30, 31, 32, 70, 71, 72, 73, 74, 75] (by decide +kernel) (by decide +kernel)
set_option maxRecDepth 20000 in
theorem gX0_choose_X4_add : GoodIn wsX0_choose (wsV RX0 50 RX4 yX4_add wsX4_add) := goodIn_app (goodIn_of _ (by decide +kernel)) ggX0_choose_X4_add
set_option maxRecDepth 20000 in
theorem ggX0_choose_X8_sameFrom : GoodIn wsX0_choose wsX8_sameFrom := goodIn_r _ [37, 38, 39, 68, 69] (by decide +kernel) (by decide +kernel)
set_option maxRecDepth 20000 in
theorem gX0_choose_X8_sameFrom : GoodIn wsX0_choose (wsV RX0 54 RX8 yX8_sameFrom wsX8_sameFrom) := goodIn_app (goodIn_of _ (by decide +kernel)) ggX0_choose_X8_sameFrom
set_option maxRecDepth 20000 in
theorem ggX0_choose_X0_againLength : GoodIn wsX0_choose wsX0_againLength := goodIn_r _ [43, 23, 44, 45, 46, 47, 48, 49, 50, 51, 52, 17, 53, 3, 54, 55, 56, 57, 58, 59, 60, 19, 20, 21, 22, 24, 61, 62, 63, 64, 65, 66, 67, 76, 77, 78, 79] (by decide +kernel) (by decide +kernel)
set_option maxRecDepth 20000 in
theorem gX0_choose_X0_againLength : GoodIn wsX0_choose (wsV RX0 57 RX0 yX0_againLength wsX0_againLength) := goodIn_app (goodIn_of _ (by decide +kernel)) ggX0_choose_X0_againLength
theorem dX0_choose_0 : decode cX0_choose 0 = .ok (.aload_n 1, 1) := by decide +kernel
theorem dX0_choose_1 : decode cX0_choose 1 = .ok (.invokevirtual 35, 3) := by decide +kernel
theorem dX0_choose_4 : decode cX0_choose 4 = .ok (.iconst 0, 1) := by decide +kernel
theorem dX0_choose_5 : decode cX0_choose 5 = .ok (.istore_n 2, 1) := by decide +kernel
theorem dX0_choose_6 : decode cX0_choose 6 = .ok (.iconst 0, 1) := by decide +kernel
theorem dX0_choose_7 : decode cX0_choose 7 = .ok (.istore_n 3, 1) := by decide +kernel
theorem dX0_choose_8 : decode cX0_choose 8 = .ok (.iconst 0, 1) := by decide +kernel
theorem dX0_choose_9 : decode cX0_choose 9 = .ok (.istore 4, 2) := by decide +kernel
theorem dX0_choose_11 : decode cX0_choose 11 = .ok (.iload 4, 2) := by decide +kernel
theorem dX0_choose_13 : decode cX0_choose 13 = .ok (.bipush 64, 2) := by decide +kernel
theorem dX0_choose_15 : decode cX0_choose 15 = .ok (.if_icmp .ge 132, 3) := by decide +kernel
theorem dX0_choose_18 : decode cX0_choose 18 = .ok (.iload_n 2, 1) := by decide +kernel
theorem dX0_choose_19 : decode cX0_choose 19 = .ok (.aload_n 0, 1) := by decide +kernel
theorem dX0_choose_20 : decode cX0_choose 20 = .ok (.getfield 27, 3) := by decide +kernel
theorem dX0_choose_23 : decode cX0_choose 23 = .ok (.getfield 40, 3) := by decide +kernel
theorem dX0_choose_26 : decode cX0_choose 26 = .ok (.if_icmp .ge 121, 3) := by decide +kernel
theorem dX0_choose_29 : decode cX0_choose 29 = .ok (.aload_n 0, 1) := by decide +kernel
theorem dX0_choose_30 : decode cX0_choose 30 = .ok (.getfield 11, 3) := by decide +kernel
theorem dX0_choose_33 : decode cX0_choose 33 = .ok (.iload_n 2, 1) := by decide +kernel
theorem dX0_choose_34 : decode cX0_choose 34 = .ok (.bipush 65, 2) := by decide +kernel
theorem dX0_choose_36 : decode cX0_choose 36 = .ok (.imul, 1) := by decide +kernel
theorem dX0_choose_37 : decode cX0_choose 37 = .ok (.iload_n 3, 1) := by decide +kernel
theorem dX0_choose_38 : decode cX0_choose 38 = .ok (.iadd, 1) := by decide +kernel
theorem dX0_choose_39 : decode cX0_choose 39 = .ok (.iaload, 1) := by decide +kernel
theorem dX0_choose_40 : decode cX0_choose 40 = .ok (.istore 5, 2) := by decide +kernel
theorem dX0_choose_42 : decode cX0_choose 42 = .ok (.iload 5, 2) := by decide +kernel
theorem dX0_choose_44 : decode cX0_choose 44 = .ok (.aload_n 0, 1) := by decide +kernel
theorem dX0_choose_45 : decode cX0_choose 45 = .ok (.iload_n 2, 1) := by decide +kernel
theorem dX0_choose_46 : decode cX0_choose 46 = .ok (.iload_n 3, 1) := by decide +kernel
theorem dX0_choose_47 : decode cX0_choose 47 = .ok (.invokevirtual 46, 3) := by decide +kernel
theorem dX0_choose_50 : decode cX0_choose 50 = .ok (.if_icmp .ne 17, 3) := by decide +kernel
theorem dX0_choose_53 : decode cX0_choose 53 = .ok (.aload_n 1, 1) := by decide +kernel
theorem dX0_choose_54 : decode cX0_choose 54 = .ok (.iconst 0, 1) := by decide +kernel
theorem dX0_choose_55 : decode cX0_choose 55 = .ok (.iconst 1, 1) := by decide +kernel
theorem dX0_choose_56 : decode cX0_choose 56 = .ok (.iconst 0, 1) := by decide +kernel
theorem dX0_choose_57 : decode cX0_choose 57 = .ok (.iload_n 2, 1) := by decide +kernel
theorem dX0_choose_58 : decode cX0_choose 58 = .ok (.invokevirtual 50, 3) := by decide +kernel
theorem dX0_choose_61 : decode cX0_choose 61 = .ok (.iinc 2 1, 3) := by decide +kernel
theorem dX0_choose_64 : decode cX0_choose 64 = .ok (.goto 77, 3) := by decide +kernel
theorem dX0_choose_67 : decode cX0_choose 67 = .ok (.iload 5, 2) := by decide +kernel
theorem dX0_choose_69 : decode cX0_choose 69 = .ok (.aload_n 0, 1) := by decide +kernel
theorem dX0_choose_70 : decode cX0_choose 70 = .ok (.getfield 18, 3) := by decide +kernel
theorem dX0_choose_73 : decode cX0_choose 73 = .ok (.iload_n 2, 1) := by decide +kernel
theorem dX0_choose_74 : decode cX0_choose 74 = .ok (.iaload, 1) := by decide +kernel
theorem dX0_choose_75 : decode cX0_choose 75 = .ok (.if_icmp .ne 35, 3) := by decide +kernel
theorem dX0_choose_78 : decode cX0_choose 78 = .ok (.aload_n 0, 1) := by decide +kernel
theorem dX0_choose_79 : decode cX0_choose 79 = .ok (.getfield 24, 3) := by decide +kernel
theorem dX0_choose_82 : decode cX0_choose 82 = .ok (.iload_n 2, 1) := by decide +kernel
theorem dX0_choose_83 : decode cX0_choose 83 = .ok (.iaload, 1) := by decide +kernel
theorem dX0_choose_84 : decode cX0_choose 84 = .ok (.istore_n 3, 1) := by decide +kernel
theorem dX0_choose_85 : decode cX0_choose 85 = .ok (.aload_n 1, 1) := by decide +kernel
theorem dX0_choose_86 : decode cX0_choose 86 = .ok (.iconst 1, 1) := by decide +kernel
theorem dX0_choose_87 : decode cX0_choose 87 = .ok (.aload_n 0, 1) := by decide +kernel
theorem dX0_choose_88 : decode cX0_choose 88 = .ok (.getfield 21, 3) := by decide +kernel
theorem dX0_choose_91 : decode cX0_choose 91 = .ok (.iload_n 2, 1) := by decide +kernel
theorem dX0_choose_92 : decode cX0_choose 92 = .ok (.iaload, 1) := by decide +kernel
theorem dX0_choose_93 : decode cX0_choose 93 = .ok (.iload_n 3, 1) := by decide +kernel
theorem dX0_choose_94 : decode cX0_choose 94 = .ok (.iload_n 2, 1) := by decide +kernel
theorem dX0_choose_95 : decode cX0_choose 95 = .ok (.invokevirtual 50, 3) := by decide +kernel
theorem dX0_choose_98 : decode cX0_choose 98 = .ok (.iload_n 2, 1) := by decide +kernel
theorem dX0_choose_99 : decode cX0_choose 99 = .ok (.aload_n 0, 1) := by decide +kernel
theorem dX0_choose_100 : decode cX0_choose 100 = .ok (.getfield 21, 3) := by decide +kernel
theorem dX0_choose_103 : decode cX0_choose 103 = .ok (.iload_n 2, 1) := by decide +kernel
theorem dX0_choose_104 : decode cX0_choose 104 = .ok (.iaload, 1) := by decide +kernel
theorem dX0_choose_105 : decode cX0_choose 105 = .ok (.iadd, 1) := by decide +kernel
theorem dX0_choose_106 : decode cX0_choose 106 = .ok (.istore_n 2, 1) := by decide +kernel
theorem dX0_choose_107 : decode cX0_choose 107 = .ok (.goto 34, 3) := by decide +kernel
theorem dX0_choose_110 : decode cX0_choose 110 = .ok (.aload_n 0, 1) := by decide +kernel
theorem dX0_choose_111 : decode cX0_choose 111 = .ok (.iload_n 2, 1) := by decide +kernel
theorem dX0_choose_112 : decode cX0_choose 112 = .ok (.iload_n 3, 1) := by decide +kernel
theorem dX0_choose_113 : decode cX0_choose 113 = .ok (.aload_n 0, 1) := by decide +kernel
theorem dX0_choose_114 : decode cX0_choose 114 = .ok (.getfield 27, 3) := by decide +kernel
theorem dX0_choose_117 : decode cX0_choose 117 = .ok (.iload_n 2, 1) := by decide +kernel
theorem dX0_choose_118 : decode cX0_choose 118 = .ok (.iload_n 3, 1) := by decide +kernel
theorem dX0_choose_119 : decode cX0_choose 119 = .ok (.invokevirtual 54, 3) := by decide +kernel
theorem dX0_choose_122 : decode cX0_choose 122 = .ok (.invokevirtual 57, 3) := by decide +kernel
theorem dX0_choose_125 : decode cX0_choose 125 = .ok (.istore 6, 2) := by decide +kernel
theorem dX0_choose_127 : decode cX0_choose 127 = .ok (.aload_n 1, 1) := by decide +kernel
theorem dX0_choose_128 : decode cX0_choose 128 = .ok (.iconst 2, 1) := by decide +kernel
theorem dX0_choose_129 : decode cX0_choose 129 = .ok (.iload 6, 2) := by decide +kernel
theorem dX0_choose_131 : decode cX0_choose 131 = .ok (.iload_n 3, 1) := by decide +kernel
theorem dX0_choose_132 : decode cX0_choose 132 = .ok (.iload_n 2, 1) := by decide +kernel
theorem dX0_choose_133 : decode cX0_choose 133 = .ok (.invokevirtual 50, 3) := by decide +kernel
theorem dX0_choose_136 : decode cX0_choose 136 = .ok (.iload_n 2, 1) := by decide +kernel
theorem dX0_choose_137 : decode cX0_choose 137 = .ok (.iload 6, 2) := by decide +kernel
theorem dX0_choose_139 : decode cX0_choose 139 = .ok (.iadd, 1) := by decide +kernel
theorem dX0_choose_140 : decode cX0_choose 140 = .ok (.istore_n 2, 1) := by decide +kernel
theorem dX0_choose_141 : decode cX0_choose 141 = .ok (.iinc 4 1, 3) := by decide +kernel
theorem dX0_choose_144 : decode cX0_choose 144 = .ok (.goto (-133), 3) := by decide +kernel
theorem dX0_choose_147 : decode cX0_choose 147 = .ok (.return_, 1) := by decide +kernel
set_option maxRecDepth 20000 in
theorem ggX0_weighStates_X0_growRuns : GoodIn wsX0_weighStates wsX0_growRuns := goodIn_r _ [15, 1, 16, 4, 62, 63, 64, 65, 66, 67, 68, 69, 70] (by decide +kernel) (by decide +kernel)
set_option maxRecDepth 20000 in
theorem gX0_weighStates_X0_growRuns : GoodIn wsX0_weighStates (wsV RX0 71 RX0 yX0_growRuns wsX0_growRuns) := goodIn_app (goodIn_of _ (by decide +kernel)) ggX0_weighStates_X0_growRuns
set_option maxRecDepth 20000 in
theorem ggX0_weighStates_X0_weighMatches : GoodIn wsX0_weighStates wsX0_weighMatches := goodIn_r _ [20, 21, 22, 23, 24, 4, 5, 25, 7, 8, 9, 10, 26, 27, 28, 29, 14, 30, 3, 31, 32, 33, 34, 35, 36, 37, 38, 39, 40, 41, 42, 62, 63, 64, 65, 66, 67, 68, 71, 72, 73, 74] (by decide +kernel) (by decide +kernel)
set_option maxRecDepth 20000 in
theorem gX0_weighStates_X0_weighMatches : GoodIn wsX0_weighStates (wsV RX0 75 RX0 yX0_weighMatches wsX0_weighMatches) := goodIn_app (goodIn_of _ (by decide +kernel)) ggX0_weighStates_X0_weighMatches
set_option maxRecDepth 20000 in
theorem ggX0_weighStates_X0_lightest : GoodIn wsX0_weighStates wsX0_lightest := goodIn_r _ [46, 21, 7, 8, 9, 10, 4, 47, 48, 49, 14, 50, 3, 38, 39, 40, 41, 5, 42, 51, 52, 53, 54, 25, 22, 55, 56, 57, 58, 59, 60, 33, 61, 35, 36, 37, 62, 63, 64, 65, 66, 67, 68, 71, 72, 73, 74] (by decide +kernel) (by decide +kernel)
set_option maxRecDepth 20000 in
theorem gX0_weighStates_X0_lightest : GoodIn wsX0_weighStates (wsV RX0 78 RX0 yX0_lightest wsX0_lightest) := goodIn_app (goodIn_of _ (by decide +kernel)) ggX0_weighStates_X0_lightest
theorem dX0_weighStates_0 : decode cX0_weighStates 0 = .ok (.aload_n 0, 1) := by decide +kernel
theorem dX0_weighStates_1 : decode cX0_weighStates 1 = .ok (.getfield 27, 3) := by decide +kernel
theorem dX0_weighStates_4 : decode cX0_weighStates 4 = .ok (.getfield 40, 3) := by decide +kernel
theorem dX0_weighStates_7 : decode cX0_weighStates 7 = .ok (.istore_n 1, 1) := by decide +kernel
theorem dX0_weighStates_8 : decode cX0_weighStates 8 = .ok (.iconst 0, 1) := by decide +kernel
theorem dX0_weighStates_9 : decode cX0_weighStates 9 = .ok (.istore_n 2, 1) := by decide +kernel
theorem dX0_weighStates_10 : decode cX0_weighStates 10 = .ok (.iload_n 2, 1) := by decide +kernel
theorem dX0_weighStates_11 : decode cX0_weighStates 11 = .ok (.bipush 65, 2) := by decide +kernel
theorem dX0_weighStates_13 : decode cX0_weighStates 13 = .ok (.if_icmp .ge 28, 3) := by decide +kernel
theorem dX0_weighStates_16 : decode cX0_weighStates 16 = .ok (.aload_n 0, 1) := by decide +kernel
theorem dX0_weighStates_17 : decode cX0_weighStates 17 = .ok (.getfield 11, 3) := by decide +kernel
theorem dX0_weighStates_20 : decode cX0_weighStates 20 = .ok (.iload_n 1, 1) := by decide +kernel
theorem dX0_weighStates_21 : decode cX0_weighStates 21 = .ok (.bipush 65, 2) := by decide +kernel
theorem dX0_weighStates_23 : decode cX0_weighStates 23 = .ok (.imul, 1) := by decide +kernel
theorem dX0_weighStates_24 : decode cX0_weighStates 24 = .ok (.iload_n 2, 1) := by decide +kernel
theorem dX0_weighStates_25 : decode cX0_weighStates 25 = .ok (.iadd, 1) := by decide +kernel
theorem dX0_weighStates_26 : decode cX0_weighStates 26 = .ok (.iconst 0, 1) := by decide +kernel
theorem dX0_weighStates_27 : decode cX0_weighStates 27 = .ok (.iastore, 1) := by decide +kernel
theorem dX0_weighStates_28 : decode cX0_weighStates 28 = .ok (.aload_n 0, 1) := by decide +kernel
theorem dX0_weighStates_29 : decode cX0_weighStates 29 = .ok (.getfield 15, 3) := by decide +kernel
theorem dX0_weighStates_32 : decode cX0_weighStates 32 = .ok (.iload_n 2, 1) := by decide +kernel
theorem dX0_weighStates_33 : decode cX0_weighStates 33 = .ok (.iconst 0, 1) := by decide +kernel
theorem dX0_weighStates_34 : decode cX0_weighStates 34 = .ok (.iastore, 1) := by decide +kernel
theorem dX0_weighStates_35 : decode cX0_weighStates 35 = .ok (.iinc 2 1, 3) := by decide +kernel
theorem dX0_weighStates_38 : decode cX0_weighStates 38 = .ok (.goto (-28), 3) := by decide +kernel
theorem dX0_weighStates_41 : decode cX0_weighStates 41 = .ok (.iload_n 1, 1) := by decide +kernel
theorem dX0_weighStates_42 : decode cX0_weighStates 42 = .ok (.iconst 1, 1) := by decide +kernel
theorem dX0_weighStates_43 : decode cX0_weighStates 43 = .ok (.isub, 1) := by decide +kernel
theorem dX0_weighStates_44 : decode cX0_weighStates 44 = .ok (.istore_n 2, 1) := by decide +kernel
theorem dX0_weighStates_45 : decode cX0_weighStates 45 = .ok (.iload_n 2, 1) := by decide +kernel
theorem dX0_weighStates_46 : decode cX0_weighStates 46 = .ok (.ifCond .lt 67, 3) := by decide +kernel
theorem dX0_weighStates_49 : decode cX0_weighStates 49 = .ok (.iload_n 2, 1) := by decide +kernel
theorem dX0_weighStates_50 : decode cX0_weighStates 50 = .ok (.aload_n 0, 1) := by decide +kernel
theorem dX0_weighStates_51 : decode cX0_weighStates 51 = .ok (.getfield 31, 3) := by decide +kernel
theorem dX0_weighStates_54 : decode cX0_weighStates 54 = .ok (.getfield 61, 3) := by decide +kernel
theorem dX0_weighStates_57 : decode cX0_weighStates 57 = .ok (.invokestatic 66, 3) := by decide +kernel
theorem dX0_weighStates_60 : decode cX0_weighStates 60 = .ok (.istore_n 3, 1) := by decide +kernel
theorem dX0_weighStates_61 : decode cX0_weighStates 61 = .ok (.aload_n 0, 1) := by decide +kernel
theorem dX0_weighStates_62 : decode cX0_weighStates 62 = .ok (.iload_n 2, 1) := by decide +kernel
theorem dX0_weighStates_63 : decode cX0_weighStates 63 = .ok (.iload_n 3, 1) := by decide +kernel
theorem dX0_weighStates_64 : decode cX0_weighStates 64 = .ok (.invokevirtual 71, 3) := by decide +kernel
theorem dX0_weighStates_67 : decode cX0_weighStates 67 = .ok (.aload_n 0, 1) := by decide +kernel
theorem dX0_weighStates_68 : decode cX0_weighStates 68 = .ok (.iload_n 2, 1) := by decide +kernel
theorem dX0_weighStates_69 : decode cX0_weighStates 69 = .ok (.iload_n 3, 1) := by decide +kernel
theorem dX0_weighStates_70 : decode cX0_weighStates 70 = .ok (.invokevirtual 75, 3) := by decide +kernel
theorem dX0_weighStates_73 : decode cX0_weighStates 73 = .ok (.iconst 0, 1) := by decide +kernel
theorem dX0_weighStates_74 : decode cX0_weighStates 74 = .ok (.istore 4, 2) := by decide +kernel
theorem dX0_weighStates_76 : decode cX0_weighStates 76 = .ok (.iload 4, 2) := by decide +kernel
theorem dX0_weighStates_78 : decode cX0_weighStates 78 = .ok (.iload_n 3, 1) := by decide +kernel
theorem dX0_weighStates_79 : decode cX0_weighStates 79 = .ok (.if_icmp .gt 28, 3) := by decide +kernel
theorem dX0_weighStates_82 : decode cX0_weighStates 82 = .ok (.aload_n 0, 1) := by decide +kernel
theorem dX0_weighStates_83 : decode cX0_weighStates 83 = .ok (.getfield 11, 3) := by decide +kernel
theorem dX0_weighStates_86 : decode cX0_weighStates 86 = .ok (.iload_n 2, 1) := by decide +kernel
theorem dX0_weighStates_87 : decode cX0_weighStates 87 = .ok (.bipush 65, 2) := by decide +kernel
theorem dX0_weighStates_89 : decode cX0_weighStates 89 = .ok (.imul, 1) := by decide +kernel
theorem dX0_weighStates_90 : decode cX0_weighStates 90 = .ok (.iload 4, 2) := by decide +kernel
theorem dX0_weighStates_92 : decode cX0_weighStates 92 = .ok (.iadd, 1) := by decide +kernel
theorem dX0_weighStates_93 : decode cX0_weighStates 93 = .ok (.aload_n 0, 1) := by decide +kernel
theorem dX0_weighStates_94 : decode cX0_weighStates 94 = .ok (.iload_n 2, 1) := by decide +kernel
theorem dX0_weighStates_95 : decode cX0_weighStates 95 = .ok (.iload 4, 2) := by decide +kernel
theorem dX0_weighStates_97 : decode cX0_weighStates 97 = .ok (.invokevirtual 78, 3) := by decide +kernel
theorem dX0_weighStates_100 : decode cX0_weighStates 100 = .ok (.iastore, 1) := by decide +kernel
theorem dX0_weighStates_101 : decode cX0_weighStates 101 = .ok (.iinc 4 1, 3) := by decide +kernel
theorem dX0_weighStates_104 : decode cX0_weighStates 104 = .ok (.goto (-28), 3) := by decide +kernel
theorem dX0_weighStates_107 : decode cX0_weighStates 107 = .ok (.iinc 2 (-1), 3) := by decide +kernel
theorem dX0_weighStates_110 : decode cX0_weighStates 110 = .ok (.goto (-65), 3) := by decide +kernel
theorem dX0_weighStates_113 : decode cX0_weighStates 113 = .ok (.return_, 1) := by decide +kernel
theorem dX0_growRuns_0 : decode cX0_growRuns 0 = .ok (.iconst 1, 1) := by decide +kernel
theorem dX0_growRuns_1 : decode cX0_growRuns 1 = .ok (.istore_n 3, 1) := by decide +kernel
theorem dX0_growRuns_2 : decode cX0_growRuns 2 = .ok (.iload_n 3, 1) := by decide +kernel
theorem dX0_growRuns_3 : decode cX0_growRuns 3 = .ok (.iload_n 2, 1) := by decide +kernel
theorem dX0_growRuns_4 : decode cX0_growRuns 4 = .ok (.if_icmp .gt 62, 3) := by decide +kernel
theorem dX0_growRuns_7 : decode cX0_growRuns 7 = .ok (.aload_n 0, 1) := by decide +kernel
theorem dX0_growRuns_8 : decode cX0_growRuns 8 = .ok (.getfield 27, 3) := by decide +kernel
theorem dX0_growRuns_11 : decode cX0_growRuns 11 = .ok (.getfield 81, 3) := by decide +kernel
theorem dX0_growRuns_14 : decode cX0_growRuns 14 = .ok (.iload_n 1, 1) := by decide +kernel
theorem dX0_growRuns_15 : decode cX0_growRuns 15 = .ok (.iaload, 1) := by decide +kernel
theorem dX0_growRuns_16 : decode cX0_growRuns 16 = .ok (.aload_n 0, 1) := by decide +kernel
theorem dX0_growRuns_17 : decode cX0_growRuns 17 = .ok (.getfield 27, 3) := by decide +kernel
theorem dX0_growRuns_20 : decode cX0_growRuns 20 = .ok (.getfield 81, 3) := by decide +kernel
theorem dX0_growRuns_23 : decode cX0_growRuns 23 = .ok (.iload_n 1, 1) := by decide +kernel
theorem dX0_growRuns_24 : decode cX0_growRuns 24 = .ok (.iload_n 3, 1) := by decide +kernel
theorem dX0_growRuns_25 : decode cX0_growRuns 25 = .ok (.isub, 1) := by decide +kernel
theorem dX0_growRuns_26 : decode cX0_growRuns 26 = .ok (.iaload, 1) := by decide +kernel
theorem dX0_growRuns_27 : decode cX0_growRuns 27 = .ok (.if_icmp .ne 7, 3) := by decide +kernel
theorem dX0_growRuns_30 : decode cX0_growRuns 30 = .ok (.iconst 1, 1) := by decide +kernel
theorem dX0_growRuns_31 : decode cX0_growRuns 31 = .ok (.goto 4, 3) := by decide +kernel
theorem dX0_growRuns_34 : decode cX0_growRuns 34 = .ok (.iconst 0, 1) := by decide +kernel
theorem dX0_growRuns_35 : decode cX0_growRuns 35 = .ok (.istore 4, 2) := by decide +kernel
theorem dX0_growRuns_37 : decode cX0_growRuns 37 = .ok (.aload_n 0, 1) := by decide +kernel
theorem dX0_growRuns_38 : decode cX0_growRuns 38 = .ok (.getfield 15, 3) := by decide +kernel
theorem dX0_growRuns_41 : decode cX0_growRuns 41 = .ok (.iload_n 3, 1) := by decide +kernel
theorem dX0_growRuns_42 : decode cX0_growRuns 42 = .ok (.iload 4, 2) := by decide +kernel
theorem dX0_growRuns_44 : decode cX0_growRuns 44 = .ok (.ifCond .eq 14, 3) := by decide +kernel
theorem dX0_growRuns_47 : decode cX0_growRuns 47 = .ok (.aload_n 0, 1) := by decide +kernel
theorem dX0_growRuns_48 : decode cX0_growRuns 48 = .ok (.getfield 15, 3) := by decide +kernel
theorem dX0_growRuns_51 : decode cX0_growRuns 51 = .ok (.iload_n 3, 1) := by decide +kernel
theorem dX0_growRuns_52 : decode cX0_growRuns 52 = .ok (.iaload, 1) := by decide +kernel
theorem dX0_growRuns_53 : decode cX0_growRuns 53 = .ok (.iconst 1, 1) := by decide +kernel
theorem dX0_growRuns_54 : decode cX0_growRuns 54 = .ok (.iadd, 1) := by decide +kernel
theorem dX0_growRuns_55 : decode cX0_growRuns 55 = .ok (.goto 4, 3) := by decide +kernel
theorem dX0_growRuns_58 : decode cX0_growRuns 58 = .ok (.iconst 0, 1) := by decide +kernel
theorem dX0_growRuns_59 : decode cX0_growRuns 59 = .ok (.iastore, 1) := by decide +kernel
theorem dX0_growRuns_60 : decode cX0_growRuns 60 = .ok (.iinc 3 1, 3) := by decide +kernel
theorem dX0_growRuns_63 : decode cX0_growRuns 63 = .ok (.goto (-61), 3) := by decide +kernel
theorem dX0_growRuns_66 : decode cX0_growRuns 66 = .ok (.return_, 1) := by decide +kernel
set_option maxRecDepth 20000 in
theorem ggX0_weighMatches_X0_offerMatch : GoodIn wsX0_weighMatches wsX0_offerMatch := goodIn_r _ [17, 18, 1, 3, 4, 19, 20, 21, 22, 23, 24, 25, 26, 27, 28, 16, 29, 6, 30, 31, 32, 33, 34, 35, 36, 37, 38, 39, 40, 41] (by decide +kernel) (by decide +kernel)
set_option maxRecDepth 20000 in
theorem gX0_weighMatches_X0_offerMatch : GoodIn wsX0_weighMatches (wsV RX0 91 RX0 yX0_offerMatch wsX0_offerMatch) := goodIn_app (goodIn_of _ (by decide +kernel)) ggX0_weighMatches_X0_offerMatch
theorem dX0_weighMatches_0 : decode cX0_weighMatches 0 = .ok (.aload_n 0, 1) := by decide +kernel
theorem dX0_weighMatches_1 : decode cX0_weighMatches 1 = .ok (.getfield 18, 3) := by decide +kernel
theorem dX0_weighMatches_4 : decode cX0_weighMatches 4 = .ok (.iload_n 1, 1) := by decide +kernel
theorem dX0_weighMatches_5 : decode cX0_weighMatches 5 = .ok (.ldc 84, 2) := by decide +kernel
theorem dX0_weighMatches_7 : decode cX0_weighMatches 7 = .ok (.iastore, 1) := by decide +kernel
theorem dX0_weighMatches_8 : decode cX0_weighMatches 8 = .ok (.aload_n 0, 1) := by decide +kernel
theorem dX0_weighMatches_9 : decode cX0_weighMatches 9 = .ok (.getfield 21, 3) := by decide +kernel
theorem dX0_weighMatches_12 : decode cX0_weighMatches 12 = .ok (.iload_n 1, 1) := by decide +kernel
theorem dX0_weighMatches_13 : decode cX0_weighMatches 13 = .ok (.iconst 0, 1) := by decide +kernel
theorem dX0_weighMatches_14 : decode cX0_weighMatches 14 = .ok (.iastore, 1) := by decide +kernel
theorem dX0_weighMatches_15 : decode cX0_weighMatches 15 = .ok (.aload_n 0, 1) := by decide +kernel
theorem dX0_weighMatches_16 : decode cX0_weighMatches 16 = .ok (.getfield 24, 3) := by decide +kernel
theorem dX0_weighMatches_19 : decode cX0_weighMatches 19 = .ok (.iload_n 1, 1) := by decide +kernel
theorem dX0_weighMatches_20 : decode cX0_weighMatches 20 = .ok (.iconst 0, 1) := by decide +kernel
theorem dX0_weighMatches_21 : decode cX0_weighMatches 21 = .ok (.iastore, 1) := by decide +kernel
theorem dX0_weighMatches_22 : decode cX0_weighMatches 22 = .ok (.iconst 1, 1) := by decide +kernel
theorem dX0_weighMatches_23 : decode cX0_weighMatches 23 = .ok (.istore_n 3, 1) := by decide +kernel
theorem dX0_weighMatches_24 : decode cX0_weighMatches 24 = .ok (.iload_n 3, 1) := by decide +kernel
theorem dX0_weighMatches_25 : decode cX0_weighMatches 25 = .ok (.iload_n 2, 1) := by decide +kernel
theorem dX0_weighMatches_26 : decode cX0_weighMatches 26 = .ok (.if_icmp .gt 57, 3) := by decide +kernel
theorem dX0_weighMatches_29 : decode cX0_weighMatches 29 = .ok (.aload_n 0, 1) := by decide +kernel
theorem dX0_weighMatches_30 : decode cX0_weighMatches 30 = .ok (.getfield 15, 3) := by decide +kernel
theorem dX0_weighMatches_33 : decode cX0_weighMatches 33 = .ok (.iload_n 3, 1) := by decide +kernel
theorem dX0_weighMatches_34 : decode cX0_weighMatches 34 = .ok (.iaload, 1) := by decide +kernel
theorem dX0_weighMatches_35 : decode cX0_weighMatches 35 = .ok (.aload_n 0, 1) := by decide +kernel
theorem dX0_weighMatches_36 : decode cX0_weighMatches 36 = .ok (.getfield 31, 3) := by decide +kernel
theorem dX0_weighMatches_39 : decode cX0_weighMatches 39 = .ok (.getfield 85, 3) := by decide +kernel
theorem dX0_weighMatches_42 : decode cX0_weighMatches 42 = .ok (.invokestatic 66, 3) := by decide +kernel
theorem dX0_weighMatches_45 : decode cX0_weighMatches 45 = .ok (.istore 4, 2) := by decide +kernel
theorem dX0_weighMatches_47 : decode cX0_weighMatches 47 = .ok (.aload_n 0, 1) := by decide +kernel
theorem dX0_weighMatches_48 : decode cX0_weighMatches 48 = .ok (.getfield 31, 3) := by decide +kernel
theorem dX0_weighMatches_51 : decode cX0_weighMatches 51 = .ok (.getfield 88, 3) := by decide +kernel
theorem dX0_weighMatches_54 : decode cX0_weighMatches 54 = .ok (.istore 5, 2) := by decide +kernel
theorem dX0_weighMatches_56 : decode cX0_weighMatches 56 = .ok (.iload 5, 2) := by decide +kernel
theorem dX0_weighMatches_58 : decode cX0_weighMatches 58 = .ok (.iload 4, 2) := by decide +kernel
theorem dX0_weighMatches_60 : decode cX0_weighMatches 60 = .ok (.if_icmp .gt 17, 3) := by decide +kernel
theorem dX0_weighMatches_63 : decode cX0_weighMatches 63 = .ok (.aload_n 0, 1) := by decide +kernel
theorem dX0_weighMatches_64 : decode cX0_weighMatches 64 = .ok (.iload_n 1, 1) := by decide +kernel
theorem dX0_weighMatches_65 : decode cX0_weighMatches 65 = .ok (.iload_n 3, 1) := by decide +kernel
theorem dX0_weighMatches_66 : decode cX0_weighMatches 66 = .ok (.iload 5, 2) := by decide +kernel
theorem dX0_weighMatches_68 : decode cX0_weighMatches 68 = .ok (.invokevirtual 91, 3) := by decide +kernel
theorem dX0_weighMatches_71 : decode cX0_weighMatches 71 = .ok (.iinc 5 1, 3) := by decide +kernel
theorem dX0_weighMatches_74 : decode cX0_weighMatches 74 = .ok (.goto (-18), 3) := by decide +kernel
theorem dX0_weighMatches_77 : decode cX0_weighMatches 77 = .ok (.iinc 3 1, 3) := by decide +kernel
theorem dX0_weighMatches_80 : decode cX0_weighMatches 80 = .ok (.goto (-56), 3) := by decide +kernel
theorem dX0_weighMatches_83 : decode cX0_weighMatches 83 = .ok (.return_, 1) := by decide +kernel
set_option maxRecDepth 20000 in
theorem ggX0_offerMatch_X2_matchBits : GoodIn wsX0_offerMatch wsX2_matchBits := goodIn_r _ [8, 9, 10, 7, 11] (by decide +kernel) (by decide +kernel)
set_option maxRecDepth 20000 in
theorem gX0_offerMatch_X2_matchBits : GoodIn wsX0_offerMatch (va_wsS RX0 95 yX2_matchBits wsX2_matchBits) := goodIn_app (goodIn_of _ (by decide +kernel)) ggX0_offerMatch_X2_matchBits
set_option maxRecDepth 20000 in
theorem ggX0_offerMatch_X0_tokenWeight : GoodIn wsX0_offerMatch wsX0_tokenWeight := goodIn_r _ [16, 17, 18, 19, 20, 21, 22, 23, 24, 25, 26, 27, 28, 29] (by decide +kernel) (by decide +kernel)
set_option maxRecDepth 20000 in
theorem gX0_offerMatch_X0_tokenWeight : GoodIn wsX0_offerMatch (wsV RX0 100 RX0 yX0_tokenWeight wsX0_tokenWeight) := goodIn_app (goodIn_of _ (by decide +kernel)) ggX0_offerMatch_X0_tokenWeight
theorem dX0_offerMatch_0 : decode cX0_offerMatch 0 = .ok (.aload_n 0, 1) := by decide +kernel
theorem dX0_offerMatch_1 : decode cX0_offerMatch 1 = .ok (.iload_n 2, 1) := by decide +kernel
theorem dX0_offerMatch_2 : decode cX0_offerMatch 2 = .ok (.iload_n 3, 1) := by decide +kernel
theorem dX0_offerMatch_3 : decode cX0_offerMatch 3 = .ok (.invokestatic 95, 3) := by decide +kernel
theorem dX0_offerMatch_6 : decode cX0_offerMatch 6 = .ok (.invokevirtual 100, 3) := by decide +kernel
theorem dX0_offerMatch_9 : decode cX0_offerMatch 9 = .ok (.aload_n 0, 1) := by decide +kernel
theorem dX0_offerMatch_10 : decode cX0_offerMatch 10 = .ok (.getfield 11, 3) := by decide +kernel
theorem dX0_offerMatch_13 : decode cX0_offerMatch 13 = .ok (.iload_n 1, 1) := by decide +kernel
theorem dX0_offerMatch_14 : decode cX0_offerMatch 14 = .ok (.iload_n 3, 1) := by decide +kernel
theorem dX0_offerMatch_15 : decode cX0_offerMatch 15 = .ok (.iadd, 1) := by decide +kernel
theorem dX0_offerMatch_16 : decode cX0_offerMatch 16 = .ok (.bipush 65, 2) := by decide +kernel
theorem dX0_offerMatch_18 : decode cX0_offerMatch 18 = .ok (.imul, 1) := by decide +kernel
theorem dX0_offerMatch_19 : decode cX0_offerMatch 19 = .ok (.iload_n 2, 1) := by decide +kernel
theorem dX0_offerMatch_20 : decode cX0_offerMatch 20 = .ok (.iadd, 1) := by decide +kernel
theorem dX0_offerMatch_21 : decode cX0_offerMatch 21 = .ok (.iaload, 1) := by decide +kernel
theorem dX0_offerMatch_22 : decode cX0_offerMatch 22 = .ok (.iadd, 1) := by decide +kernel
theorem dX0_offerMatch_23 : decode cX0_offerMatch 23 = .ok (.istore 4, 2) := by decide +kernel
theorem dX0_offerMatch_25 : decode cX0_offerMatch 25 = .ok (.iload 4, 2) := by decide +kernel
theorem dX0_offerMatch_27 : decode cX0_offerMatch 27 = .ok (.aload_n 0, 1) := by decide +kernel
theorem dX0_offerMatch_28 : decode cX0_offerMatch 28 = .ok (.getfield 18, 3) := by decide +kernel
theorem dX0_offerMatch_31 : decode cX0_offerMatch 31 = .ok (.iload_n 1, 1) := by decide +kernel
theorem dX0_offerMatch_32 : decode cX0_offerMatch 32 = .ok (.iaload, 1) := by decide +kernel
theorem dX0_offerMatch_33 : decode cX0_offerMatch 33 = .ok (.if_icmp .ne 17, 3) := by decide +kernel
theorem dX0_offerMatch_36 : decode cX0_offerMatch 36 = .ok (.iload_n 3, 1) := by decide +kernel
theorem dX0_offerMatch_37 : decode cX0_offerMatch 37 = .ok (.aload_n 0, 1) := by decide +kernel
theorem dX0_offerMatch_38 : decode cX0_offerMatch 38 = .ok (.getfield 21, 3) := by decide +kernel
theorem dX0_offerMatch_41 : decode cX0_offerMatch 41 = .ok (.iload_n 1, 1) := by decide +kernel
theorem dX0_offerMatch_42 : decode cX0_offerMatch 42 = .ok (.iaload, 1) := by decide +kernel
theorem dX0_offerMatch_43 : decode cX0_offerMatch 43 = .ok (.if_icmp .le 7, 3) := by decide +kernel
theorem dX0_offerMatch_46 : decode cX0_offerMatch 46 = .ok (.iconst 1, 1) := by decide +kernel
theorem dX0_offerMatch_47 : decode cX0_offerMatch 47 = .ok (.goto 4, 3) := by decide +kernel
theorem dX0_offerMatch_50 : decode cX0_offerMatch 50 = .ok (.iconst 0, 1) := by decide +kernel
theorem dX0_offerMatch_51 : decode cX0_offerMatch 51 = .ok (.istore 5, 2) := by decide +kernel
theorem dX0_offerMatch_53 : decode cX0_offerMatch 53 = .ok (.iload 4, 2) := by decide +kernel
theorem dX0_offerMatch_55 : decode cX0_offerMatch 55 = .ok (.aload_n 0, 1) := by decide +kernel
theorem dX0_offerMatch_56 : decode cX0_offerMatch 56 = .ok (.getfield 18, 3) := by decide +kernel
theorem dX0_offerMatch_59 : decode cX0_offerMatch 59 = .ok (.iload_n 1, 1) := by decide +kernel
theorem dX0_offerMatch_60 : decode cX0_offerMatch 60 = .ok (.iaload, 1) := by decide +kernel
theorem dX0_offerMatch_61 : decode cX0_offerMatch 61 = .ok (.if_icmp .lt 8, 3) := by decide +kernel
theorem dX0_offerMatch_64 : decode cX0_offerMatch 64 = .ok (.iload 5, 2) := by decide +kernel
theorem dX0_offerMatch_66 : decode cX0_offerMatch 66 = .ok (.ifCond .eq 25, 3) := by decide +kernel
theorem dX0_offerMatch_69 : decode cX0_offerMatch 69 = .ok (.aload_n 0, 1) := by decide +kernel
theorem dX0_offerMatch_70 : decode cX0_offerMatch 70 = .ok (.getfield 18, 3) := by decide +kernel
theorem dX0_offerMatch_73 : decode cX0_offerMatch 73 = .ok (.iload_n 1, 1) := by decide +kernel
theorem dX0_offerMatch_74 : decode cX0_offerMatch 74 = .ok (.iload 4, 2) := by decide +kernel
theorem dX0_offerMatch_76 : decode cX0_offerMatch 76 = .ok (.iastore, 1) := by decide +kernel
theorem dX0_offerMatch_77 : decode cX0_offerMatch 77 = .ok (.aload_n 0, 1) := by decide +kernel
theorem dX0_offerMatch_78 : decode cX0_offerMatch 78 = .ok (.getfield 21, 3) := by decide +kernel
theorem dX0_offerMatch_81 : decode cX0_offerMatch 81 = .ok (.iload_n 1, 1) := by decide +kernel
theorem dX0_offerMatch_82 : decode cX0_offerMatch 82 = .ok (.iload_n 3, 1) := by decide +kernel
theorem dX0_offerMatch_83 : decode cX0_offerMatch 83 = .ok (.iastore, 1) := by decide +kernel
theorem dX0_offerMatch_84 : decode cX0_offerMatch 84 = .ok (.aload_n 0, 1) := by decide +kernel
theorem dX0_offerMatch_85 : decode cX0_offerMatch 85 = .ok (.getfield 24, 3) := by decide +kernel
theorem dX0_offerMatch_88 : decode cX0_offerMatch 88 = .ok (.iload_n 1, 1) := by decide +kernel
theorem dX0_offerMatch_89 : decode cX0_offerMatch 89 = .ok (.iload_n 2, 1) := by decide +kernel
theorem dX0_offerMatch_90 : decode cX0_offerMatch 90 = .ok (.iastore, 1) := by decide +kernel
theorem dX0_offerMatch_91 : decode cX0_offerMatch 91 = .ok (.return_, 1) := by decide +kernel
set_option maxRecDepth 20000 in
theorem ggX0_lightest_X0_literalWeight : GoodIn wsX0_lightest wsX0_literalWeight := goodIn_r _ [11, 12, 13, 14, 15, 10, 16, 17, 18, 36, 37, 38, 39, 40, 41, 42, 43, 44, 45, 46] (by decide +kernel) (by decide +kernel)
set_option maxRecDepth 20000 in
theorem gX0_lightest_X0_literalWeight : GoodIn wsX0_lightest (wsV RX0 46 RX0 yX0_literalWeight wsX0_literalWeight) := goodIn_app (goodIn_of _ (by decide +kernel)) ggX0_lightest_X0_literalWeight
set_option maxRecDepth 20000 in
theorem ggX0_lightest_X0_againLength : GoodIn wsX0_lightest wsX0_againLength := goodIn_r _ [22, 17, 23, 2, 3, 4, 5, 24, 25, 26, 27, 10, 28, 12, 29, 30, 31, 32, 33, 34, 35, 13, 14, 15, 16, 18, 36, 37, 38, 39, 40, 41, 42, 43, 44, 45, 46] (by decide +kernel) (by decide +kernel)
set_option maxRecDepth 20000 in
theorem gX0_lightest_X0_againLength : GoodIn wsX0_lightest (wsV RX0 57 RX0 yX0_againLength wsX0_againLength) := goodIn_app (goodIn_of _ (by decide +kernel)) ggX0_lightest_X0_againLength
set_option maxRecDepth 20000 in
theorem ggX0_lightest_X0_againWeight : GoodIn wsX0_lightest wsX0_againWeight := goodIn_r _ [28, 12, 29, 30, 31, 32, 33, 34, 35, 13, 14, 15, 10, 16, 17, 18, 36, 37, 38, 39, 40, 41, 42, 43, 44, 45, 46] (by decide +kernel) (by decide +kernel)
set_option maxRecDepth 20000 in
theorem gX0_lightest_X0_againWeight : GoodIn wsX0_lightest (wsV RX0 104 RX0 yX0_againWeight wsX0_againWeight) := goodIn_app (goodIn_of _ (by decide +kernel)) ggX0_lightest_X0_againWeight
theorem dX0_lightest_0 : decode cX0_lightest 0 = .ok (.aload_n 0, 1) := by decide +kernel
theorem dX0_lightest_1 : decode cX0_lightest 1 = .ok (.iload_n 1, 1) := by decide +kernel
theorem dX0_lightest_2 : decode cX0_lightest 2 = .ok (.iload_n 2, 1) := by decide +kernel
theorem dX0_lightest_3 : decode cX0_lightest 3 = .ok (.invokevirtual 46, 3) := by decide +kernel
theorem dX0_lightest_6 : decode cX0_lightest 6 = .ok (.aload_n 0, 1) := by decide +kernel
theorem dX0_lightest_7 : decode cX0_lightest 7 = .ok (.getfield 18, 3) := by decide +kernel
theorem dX0_lightest_10 : decode cX0_lightest 10 = .ok (.iload_n 1, 1) := by decide +kernel
theorem dX0_lightest_11 : decode cX0_lightest 11 = .ok (.iaload, 1) := by decide +kernel
theorem dX0_lightest_12 : decode cX0_lightest 12 = .ok (.invokestatic 66, 3) := by decide +kernel
theorem dX0_lightest_15 : decode cX0_lightest 15 = .ok (.istore_n 3, 1) := by decide +kernel
theorem dX0_lightest_16 : decode cX0_lightest 16 = .ok (.aload_n 0, 1) := by decide +kernel
theorem dX0_lightest_17 : decode cX0_lightest 17 = .ok (.iload_n 1, 1) := by decide +kernel
theorem dX0_lightest_18 : decode cX0_lightest 18 = .ok (.iload_n 2, 1) := by decide +kernel
theorem dX0_lightest_19 : decode cX0_lightest 19 = .ok (.aload_n 0, 1) := by decide +kernel
theorem dX0_lightest_20 : decode cX0_lightest 20 = .ok (.getfield 15, 3) := by decide +kernel
theorem dX0_lightest_23 : decode cX0_lightest 23 = .ok (.iload_n 2, 1) := by decide +kernel
theorem dX0_lightest_24 : decode cX0_lightest 24 = .ok (.iaload, 1) := by decide +kernel
theorem dX0_lightest_25 : decode cX0_lightest 25 = .ok (.invokevirtual 57, 3) := by decide +kernel
theorem dX0_lightest_28 : decode cX0_lightest 28 = .ok (.istore 4, 2) := by decide +kernel
theorem dX0_lightest_30 : decode cX0_lightest 30 = .ok (.iload 4, 2) := by decide +kernel
theorem dX0_lightest_32 : decode cX0_lightest 32 = .ok (.ifCond .ne 7, 3) := by decide +kernel
theorem dX0_lightest_35 : decode cX0_lightest 35 = .ok (.iload_n 3, 1) := by decide +kernel
theorem dX0_lightest_36 : decode cX0_lightest 36 = .ok (.goto 15, 3) := by decide +kernel
theorem dX0_lightest_39 : decode cX0_lightest 39 = .ok (.iload_n 3, 1) := by decide +kernel
theorem dX0_lightest_40 : decode cX0_lightest 40 = .ok (.aload_n 0, 1) := by decide +kernel
theorem dX0_lightest_41 : decode cX0_lightest 41 = .ok (.iload_n 1, 1) := by decide +kernel
theorem dX0_lightest_42 : decode cX0_lightest 42 = .ok (.iload_n 2, 1) := by decide +kernel
theorem dX0_lightest_43 : decode cX0_lightest 43 = .ok (.iload 4, 2) := by decide +kernel
theorem dX0_lightest_45 : decode cX0_lightest 45 = .ok (.invokevirtual 104, 3) := by decide +kernel
theorem dX0_lightest_48 : decode cX0_lightest 48 = .ok (.invokestatic 66, 3) := by decide +kernel
theorem dX0_lightest_51 : decode cX0_lightest 51 = .ok (.ireturn, 1) := by decide +kernel
set_option maxRecDepth 20000 in
theorem ggX0_againLength_X0_againWeight : GoodIn wsX0_againLength wsX0_againWeight := goodIn_r _ [12, 13, 14, 15, 16, 17, 18, 19, 20, 21, 22, 23, 11, 24, 1, 25, 26, 27, 28, 29, 30, 31, 32, 33, 34, 35, 36] (by decide +kernel) (by decide +kernel)
set_option maxRecDepth 20000 in
theorem gX0_againLength_X0_againWeight : GoodIn wsX0_againLength (wsV RX0 104 RX0 yX0_againWeight wsX0_againWeight) := goodIn_app (goodIn_of _ (by decide +kernel)) ggX0_againLength_X0_againWeight
theorem dX0_againLength_0 : decode cX0_againLength 0 = .ok (.iload_n 3, 1) := by decide +kernel
theorem dX0_againLength_1 : decode cX0_againLength 1 = .ok (.aload_n 0, 1) := by decide +kernel
theorem dX0_againLength_2 : decode cX0_againLength 2 = .ok (.getfield 31, 3) := by decide +kernel
theorem dX0_againLength_5 : decode cX0_againLength 5 = .ok (.getfield 85, 3) := by decide +kernel
theorem dX0_againLength_8 : decode cX0_againLength 8 = .ok (.invokestatic 66, 3) := by decide +kernel
theorem dX0_againLength_11 : decode cX0_againLength 11 = .ok (.istore 4, 2) := by decide +kernel
theorem dX0_againLength_13 : decode cX0_againLength 13 = .ok (.iconst 0, 1) := by decide +kernel
theorem dX0_againLength_14 : decode cX0_againLength 14 = .ok (.istore 5, 2) := by decide +kernel
theorem dX0_againLength_16 : decode cX0_againLength 16 = .ok (.ldc 84, 2) := by decide +kernel
theorem dX0_againLength_18 : decode cX0_againLength 18 = .ok (.istore 6, 2) := by decide +kernel
theorem dX0_againLength_20 : decode cX0_againLength 20 = .ok (.iconst 1, 1) := by decide +kernel
theorem dX0_againLength_21 : decode cX0_againLength 21 = .ok (.istore 7, 2) := by decide +kernel
theorem dX0_againLength_23 : decode cX0_againLength 23 = .ok (.iload 7, 2) := by decide +kernel
theorem dX0_againLength_25 : decode cX0_againLength 25 = .ok (.iload 4, 2) := by decide +kernel
theorem dX0_againLength_27 : decode cX0_againLength 27 = .ok (.if_icmp .gt 34, 3) := by decide +kernel
theorem dX0_againLength_30 : decode cX0_againLength 30 = .ok (.aload_n 0, 1) := by decide +kernel
theorem dX0_againLength_31 : decode cX0_againLength 31 = .ok (.iload_n 1, 1) := by decide +kernel
theorem dX0_againLength_32 : decode cX0_againLength 32 = .ok (.iload_n 2, 1) := by decide +kernel
theorem dX0_againLength_33 : decode cX0_againLength 33 = .ok (.iload 7, 2) := by decide +kernel
theorem dX0_againLength_35 : decode cX0_againLength 35 = .ok (.invokevirtual 104, 3) := by decide +kernel
theorem dX0_againLength_38 : decode cX0_againLength 38 = .ok (.istore 8, 2) := by decide +kernel
theorem dX0_againLength_40 : decode cX0_againLength 40 = .ok (.iload 8, 2) := by decide +kernel
theorem dX0_againLength_42 : decode cX0_againLength 42 = .ok (.iload 6, 2) := by decide +kernel
theorem dX0_againLength_44 : decode cX0_againLength 44 = .ok (.if_icmp .gt 11, 3) := by decide +kernel
theorem dX0_againLength_47 : decode cX0_againLength 47 = .ok (.iload 8, 2) := by decide +kernel
theorem dX0_againLength_49 : decode cX0_againLength 49 = .ok (.istore 6, 2) := by decide +kernel
theorem dX0_againLength_51 : decode cX0_againLength 51 = .ok (.iload 7, 2) := by decide +kernel
theorem dX0_againLength_53 : decode cX0_againLength 53 = .ok (.istore 5, 2) := by decide +kernel
theorem dX0_againLength_55 : decode cX0_againLength 55 = .ok (.iinc 7 1, 3) := by decide +kernel
theorem dX0_againLength_58 : decode cX0_againLength 58 = .ok (.goto (-35), 3) := by decide +kernel
theorem dX0_againLength_61 : decode cX0_againLength 61 = .ok (.iload 5, 2) := by decide +kernel
theorem dX0_againLength_63 : decode cX0_againLength 63 = .ok (.ireturn, 1) := by decide +kernel
set_option maxRecDepth 20000 in
theorem ggX0_literalWeight_X0_tokenWeight : GoodIn wsX0_literalWeight wsX0_tokenWeight := goodIn_r _ [6, 7, 8, 9, 10, 11, 12, 13, 14, 15, 16, 17, 18, 19] (by decide +kernel) (by decide +kernel)
set_option maxRecDepth 20000 in
theorem gX0_literalWeight_X0_tokenWeight : GoodIn wsX0_literalWeight (wsV RX0 100 RX0 yX0_tokenWeight wsX0_tokenWeight) := goodIn_app (goodIn_of _ (by decide +kernel)) ggX0_literalWeight_X0_tokenWeight
theorem dX0_literalWeight_0 : decode cX0_literalWeight 0 = .ok (.aload_n 0, 1) := by decide +kernel
theorem dX0_literalWeight_1 : decode cX0_literalWeight 1 = .ok (.bipush 9, 2) := by decide +kernel
theorem dX0_literalWeight_3 : decode cX0_literalWeight 3 = .ok (.invokevirtual 100, 3) := by decide +kernel
theorem dX0_literalWeight_6 : decode cX0_literalWeight 6 = .ok (.aload_n 0, 1) := by decide +kernel
theorem dX0_literalWeight_7 : decode cX0_literalWeight 7 = .ok (.getfield 11, 3) := by decide +kernel
theorem dX0_literalWeight_10 : decode cX0_literalWeight 10 = .ok (.iload_n 1, 1) := by decide +kernel
theorem dX0_literalWeight_11 : decode cX0_literalWeight 11 = .ok (.iconst 1, 1) := by decide +kernel
theorem dX0_literalWeight_12 : decode cX0_literalWeight 12 = .ok (.iadd, 1) := by decide +kernel
theorem dX0_literalWeight_13 : decode cX0_literalWeight 13 = .ok (.bipush 65, 2) := by decide +kernel
theorem dX0_literalWeight_15 : decode cX0_literalWeight 15 = .ok (.imul, 1) := by decide +kernel
theorem dX0_literalWeight_16 : decode cX0_literalWeight 16 = .ok (.iload_n 2, 1) := by decide +kernel
theorem dX0_literalWeight_17 : decode cX0_literalWeight 17 = .ok (.iadd, 1) := by decide +kernel
theorem dX0_literalWeight_18 : decode cX0_literalWeight 18 = .ok (.iaload, 1) := by decide +kernel
theorem dX0_literalWeight_19 : decode cX0_literalWeight 19 = .ok (.iadd, 1) := by decide +kernel
theorem dX0_literalWeight_20 : decode cX0_literalWeight 20 = .ok (.ireturn, 1) := by decide +kernel
set_option maxRecDepth 20000 in
theorem ggX0_againWeight_X2_againBits : GoodIn wsX0_againWeight wsX2_againBits := goodIn_r _ [5, 6, 7, 4, 8] (by decide +kernel) (by decide +kernel)
set_option maxRecDepth 20000 in
theorem gX0_againWeight_X2_againBits : GoodIn wsX0_againWeight (va_wsS RX0 107 yX2_againBits wsX2_againBits) := goodIn_app (goodIn_of _ (by decide +kernel)) ggX0_againWeight_X2_againBits
set_option maxRecDepth 20000 in
theorem ggX0_againWeight_X0_tokenWeight : GoodIn wsX0_againWeight wsX0_tokenWeight := goodIn_r _ [13, 14, 15, 16, 17, 18, 19, 20, 21, 22, 23, 24, 25, 26] (by decide +kernel) (by decide +kernel)
set_option maxRecDepth 20000 in
theorem gX0_againWeight_X0_tokenWeight : GoodIn wsX0_againWeight (wsV RX0 100 RX0 yX0_tokenWeight wsX0_tokenWeight) := goodIn_app (goodIn_of _ (by decide +kernel)) ggX0_againWeight_X0_tokenWeight
theorem dX0_againWeight_0 : decode cX0_againWeight 0 = .ok (.aload_n 0, 1) := by decide +kernel
theorem dX0_againWeight_1 : decode cX0_againWeight 1 = .ok (.iload_n 3, 1) := by decide +kernel
theorem dX0_againWeight_2 : decode cX0_againWeight 2 = .ok (.invokestatic 107, 3) := by decide +kernel
theorem dX0_againWeight_5 : decode cX0_againWeight 5 = .ok (.invokevirtual 100, 3) := by decide +kernel
theorem dX0_againWeight_8 : decode cX0_againWeight 8 = .ok (.aload_n 0, 1) := by decide +kernel
theorem dX0_againWeight_9 : decode cX0_againWeight 9 = .ok (.getfield 11, 3) := by decide +kernel
theorem dX0_againWeight_12 : decode cX0_againWeight 12 = .ok (.iload_n 1, 1) := by decide +kernel
theorem dX0_againWeight_13 : decode cX0_againWeight 13 = .ok (.iload_n 3, 1) := by decide +kernel
theorem dX0_againWeight_14 : decode cX0_againWeight 14 = .ok (.iadd, 1) := by decide +kernel
theorem dX0_againWeight_15 : decode cX0_againWeight 15 = .ok (.bipush 65, 2) := by decide +kernel
theorem dX0_againWeight_17 : decode cX0_againWeight 17 = .ok (.imul, 1) := by decide +kernel
theorem dX0_againWeight_18 : decode cX0_againWeight 18 = .ok (.iload_n 2, 1) := by decide +kernel
theorem dX0_againWeight_19 : decode cX0_againWeight 19 = .ok (.iadd, 1) := by decide +kernel
theorem dX0_againWeight_20 : decode cX0_againWeight 20 = .ok (.iaload, 1) := by decide +kernel
theorem dX0_againWeight_21 : decode cX0_againWeight 21 = .ok (.iadd, 1) := by decide +kernel
theorem dX0_againWeight_22 : decode cX0_againWeight 22 = .ok (.ireturn, 1) := by decide +kernel
theorem dX0_tokenWeight_0 : decode cX0_tokenWeight 0 = .ok (.iload_n 1, 1) := by decide +kernel
theorem dX0_tokenWeight_1 : decode cX0_tokenWeight 1 = .ok (.aload_n 0, 1) := by decide +kernel
theorem dX0_tokenWeight_2 : decode cX0_tokenWeight 2 = .ok (.getfield 31, 3) := by decide +kernel
theorem dX0_tokenWeight_5 : decode cX0_tokenWeight 5 = .ok (.getfield 110, 3) := by decide +kernel
theorem dX0_tokenWeight_8 : decode cX0_tokenWeight 8 = .ok (.iadd, 1) := by decide +kernel
theorem dX0_tokenWeight_9 : decode cX0_tokenWeight 9 = .ok (.sipush 128, 3) := by decide +kernel
theorem dX0_tokenWeight_12 : decode cX0_tokenWeight 12 = .ok (.imul, 1) := by decide +kernel
theorem dX0_tokenWeight_13 : decode cX0_tokenWeight 13 = .ok (.iconst 1, 1) := by decide +kernel
theorem dX0_tokenWeight_14 : decode cX0_tokenWeight 14 = .ok (.iadd, 1) := by decide +kernel
theorem dX0_tokenWeight_15 : decode cX0_tokenWeight 15 = .ok (.ireturn, 1) := by decide +kernel
theorem dX1_init_0 : decode cX1_init 0 = .ok (.aload_n 0, 1) := by decide +kernel
theorem dX1_init_1 : decode cX1_init 1 = .ok (.invokespecial 3, 3) := by decide +kernel
theorem dX1_init_4 : decode cX1_init 4 = .ok (.aload_n 0, 1) := by decide +kernel
theorem dX1_init_5 : decode cX1_init 5 = .ok (.sipush 800, 3) := by decide +kernel
theorem dX1_init_8 : decode cX1_init 8 = .ok (.newarray .int, 2) := by decide +kernel
theorem dX1_init_10 : decode cX1_init 10 = .ok (.putfield 9, 3) := by decide +kernel
theorem dX1_init_13 : decode cX1_init 13 = .ok (.aload_n 0, 1) := by decide +kernel
theorem dX1_init_14 : decode cX1_init 14 = .ok (.iconst 0, 1) := by decide +kernel
theorem dX1_init_15 : decode cX1_init 15 = .ok (.putfield 15, 3) := by decide +kernel
theorem dX1_init_18 : decode cX1_init 18 = .ok (.return_, 1) := by decide +kernel
theorem dX1_has_0 : decode cX1_has 0 = .ok (.iload_n 1, 1) := by decide +kernel
theorem dX1_has_1 : decode cX1_has 1 = .ok (.ifCond .lt 15, 3) := by decide +kernel
theorem dX1_has_4 : decode cX1_has 4 = .ok (.iload_n 1, 1) := by decide +kernel
theorem dX1_has_5 : decode cX1_has 5 = .ok (.aload_n 0, 1) := by decide +kernel
theorem dX1_has_6 : decode cX1_has 6 = .ok (.getfield 15, 3) := by decide +kernel
theorem dX1_has_9 : decode cX1_has 9 = .ok (.if_icmp .ge 7, 3) := by decide +kernel
theorem dX1_has_12 : decode cX1_has 12 = .ok (.iconst 1, 1) := by decide +kernel
theorem dX1_has_13 : decode cX1_has 13 = .ok (.goto 4, 3) := by decide +kernel
theorem dX1_has_16 : decode cX1_has 16 = .ok (.iconst 0, 1) := by decide +kernel
theorem dX1_has_17 : decode cX1_has 17 = .ok (.ireturn, 1) := by decide +kernel
theorem dX1_pushLow_0 : decode cX1_pushLow 0 = .ok (.iload_n 2, 1) := by decide +kernel
theorem dX1_pushLow_1 : decode cX1_pushLow 1 = .ok (.iconst 1, 1) := by decide +kernel
theorem dX1_pushLow_2 : decode cX1_pushLow 2 = .ok (.isub, 1) := by decide +kernel
theorem dX1_pushLow_3 : decode cX1_pushLow 3 = .ok (.istore_n 3, 1) := by decide +kernel
theorem dX1_pushLow_4 : decode cX1_pushLow 4 = .ok (.iload_n 3, 1) := by decide +kernel
theorem dX1_pushLow_5 : decode cX1_pushLow 5 = .ok (.ifCond .lt 43, 3) := by decide +kernel
theorem dX1_pushLow_8 : decode cX1_pushLow 8 = .ok (.aload_n 0, 1) := by decide +kernel
theorem dX1_pushLow_9 : decode cX1_pushLow 9 = .ok (.getfield 15, 3) := by decide +kernel
theorem dX1_pushLow_12 : decode cX1_pushLow 12 = .ok (.sipush 800, 3) := by decide +kernel
theorem dX1_pushLow_15 : decode cX1_pushLow 15 = .ok (.if_icmp .ge 33, 3) := by decide +kernel
theorem dX1_pushLow_18 : decode cX1_pushLow 18 = .ok (.aload_n 0, 1) := by decide +kernel
theorem dX1_pushLow_19 : decode cX1_pushLow 19 = .ok (.getfield 9, 3) := by decide +kernel
theorem dX1_pushLow_22 : decode cX1_pushLow 22 = .ok (.aload_n 0, 1) := by decide +kernel
theorem dX1_pushLow_23 : decode cX1_pushLow 23 = .ok (.getfield 15, 3) := by decide +kernel
theorem dX1_pushLow_26 : decode cX1_pushLow 26 = .ok (.iload_n 1, 1) := by decide +kernel
theorem dX1_pushLow_27 : decode cX1_pushLow 27 = .ok (.iload_n 3, 1) := by decide +kernel
theorem dX1_pushLow_28 : decode cX1_pushLow 28 = .ok (.ishr, 1) := by decide +kernel
theorem dX1_pushLow_29 : decode cX1_pushLow 29 = .ok (.iconst 1, 1) := by decide +kernel
theorem dX1_pushLow_30 : decode cX1_pushLow 30 = .ok (.iand, 1) := by decide +kernel
theorem dX1_pushLow_31 : decode cX1_pushLow 31 = .ok (.iastore, 1) := by decide +kernel
theorem dX1_pushLow_32 : decode cX1_pushLow 32 = .ok (.aload_n 0, 1) := by decide +kernel
theorem dX1_pushLow_33 : decode cX1_pushLow 33 = .ok (.dup, 1) := by decide +kernel
theorem dX1_pushLow_34 : decode cX1_pushLow 34 = .ok (.getfield 15, 3) := by decide +kernel
theorem dX1_pushLow_37 : decode cX1_pushLow 37 = .ok (.iconst 1, 1) := by decide +kernel
theorem dX1_pushLow_38 : decode cX1_pushLow 38 = .ok (.iadd, 1) := by decide +kernel
theorem dX1_pushLow_39 : decode cX1_pushLow 39 = .ok (.putfield 15, 3) := by decide +kernel
theorem dX1_pushLow_42 : decode cX1_pushLow 42 = .ok (.iinc 3 (-1), 3) := by decide +kernel
theorem dX1_pushLow_45 : decode cX1_pushLow 45 = .ok (.goto (-41), 3) := by decide +kernel
theorem dX1_pushLow_48 : decode cX1_pushLow 48 = .ok (.return_, 1) := by decide +kernel
set_option maxRecDepth 20000 in
theorem ggX1_pushNumber_X2_numberBits : GoodIn wsX1_pushNumber wsX2_numberBits := goodIn_r _ [4] (by decide +kernel) (by decide +kernel)
set_option maxRecDepth 20000 in
theorem gX1_pushNumber_X2_numberBits : GoodIn wsX1_pushNumber (va_wsS RX1 19 yX2_numberBits wsX2_numberBits) := goodIn_app (goodIn_of _ (by decide +kernel)) ggX1_pushNumber_X2_numberBits
set_option maxRecDepth 20000 in
theorem ggX1_pushNumber_X1_pushLow : GoodIn wsX1_pushNumber wsX1_pushLow := goodIn_r _ [9, 10, 11, 12, 13] (by decide +kernel) (by decide +kernel)
set_option maxRecDepth 20000 in
theorem gX1_pushNumber_X1_pushLow : GoodIn wsX1_pushNumber (wsV RX1 25 RX1 yX1_pushLow wsX1_pushLow) := goodIn_app (goodIn_of _ (by decide +kernel)) ggX1_pushNumber_X1_pushLow
theorem dX1_pushNumber_0 : decode cX1_pushNumber 0 = .ok (.aload_n 0, 1) := by decide +kernel
theorem dX1_pushNumber_1 : decode cX1_pushNumber 1 = .ok (.iload_n 1, 1) := by decide +kernel
theorem dX1_pushNumber_2 : decode cX1_pushNumber 2 = .ok (.iload_n 1, 1) := by decide +kernel
theorem dX1_pushNumber_3 : decode cX1_pushNumber 3 = .ok (.invokestatic 19, 3) := by decide +kernel
theorem dX1_pushNumber_6 : decode cX1_pushNumber 6 = .ok (.invokevirtual 25, 3) := by decide +kernel
theorem dX1_pushNumber_9 : decode cX1_pushNumber 9 = .ok (.return_, 1) := by decide +kernel
theorem dX2_numberBits_0 : decode cX2_numberBits 0 = .ok (.iload_n 0, 1) := by decide +kernel
theorem dX2_numberBits_1 : decode cX2_numberBits 1 = .ok (.bipush 16, 2) := by decide +kernel
theorem dX2_numberBits_3 : decode cX2_numberBits 3 = .ok (.if_icmp .ge 34, 3) := by decide +kernel
theorem dX2_numberBits_6 : decode cX2_numberBits 6 = .ok (.iload_n 0, 1) := by decide +kernel
theorem dX2_numberBits_7 : decode cX2_numberBits 7 = .ok (.iconst 4, 1) := by decide +kernel
theorem dX2_numberBits_8 : decode cX2_numberBits 8 = .ok (.if_icmp .ge 16, 3) := by decide +kernel
theorem dX2_numberBits_11 : decode cX2_numberBits 11 = .ok (.iload_n 0, 1) := by decide +kernel
theorem dX2_numberBits_12 : decode cX2_numberBits 12 = .ok (.iconst 2, 1) := by decide +kernel
theorem dX2_numberBits_13 : decode cX2_numberBits 13 = .ok (.if_icmp .ge 7, 3) := by decide +kernel
theorem dX2_numberBits_16 : decode cX2_numberBits 16 = .ok (.iconst 1, 1) := by decide +kernel
theorem dX2_numberBits_17 : decode cX2_numberBits 17 = .ok (.goto 19, 3) := by decide +kernel
theorem dX2_numberBits_20 : decode cX2_numberBits 20 = .ok (.iconst 3, 1) := by decide +kernel
theorem dX2_numberBits_21 : decode cX2_numberBits 21 = .ok (.goto 15, 3) := by decide +kernel
theorem dX2_numberBits_24 : decode cX2_numberBits 24 = .ok (.iload_n 0, 1) := by decide +kernel
theorem dX2_numberBits_25 : decode cX2_numberBits 25 = .ok (.bipush 8, 2) := by decide +kernel
theorem dX2_numberBits_27 : decode cX2_numberBits 27 = .ok (.if_icmp .ge 7, 3) := by decide +kernel
theorem dX2_numberBits_30 : decode cX2_numberBits 30 = .ok (.iconst 5, 1) := by decide +kernel
theorem dX2_numberBits_31 : decode cX2_numberBits 31 = .ok (.goto 5, 3) := by decide +kernel
theorem dX2_numberBits_34 : decode cX2_numberBits 34 = .ok (.bipush 7, 2) := by decide +kernel
theorem dX2_numberBits_36 : decode cX2_numberBits 36 = .ok (.ireturn, 1) := by decide +kernel
theorem dX2_numberBits_37 : decode cX2_numberBits 37 = .ok (.iload_n 0, 1) := by decide +kernel
theorem dX2_numberBits_38 : decode cX2_numberBits 38 = .ok (.bipush 64, 2) := by decide +kernel
theorem dX2_numberBits_40 : decode cX2_numberBits 40 = .ok (.if_icmp .ge 19, 3) := by decide +kernel
theorem dX2_numberBits_43 : decode cX2_numberBits 43 = .ok (.iload_n 0, 1) := by decide +kernel
theorem dX2_numberBits_44 : decode cX2_numberBits 44 = .ok (.bipush 32, 2) := by decide +kernel
theorem dX2_numberBits_46 : decode cX2_numberBits 46 = .ok (.if_icmp .ge 8, 3) := by decide +kernel
theorem dX2_numberBits_49 : decode cX2_numberBits 49 = .ok (.bipush 9, 2) := by decide +kernel
theorem dX2_numberBits_51 : decode cX2_numberBits 51 = .ok (.goto 22, 3) := by decide +kernel
theorem dX2_numberBits_54 : decode cX2_numberBits 54 = .ok (.bipush 11, 2) := by decide +kernel
theorem dX2_numberBits_56 : decode cX2_numberBits 56 = .ok (.goto 17, 3) := by decide +kernel
theorem dX2_numberBits_59 : decode cX2_numberBits 59 = .ok (.iload_n 0, 1) := by decide +kernel
theorem dX2_numberBits_60 : decode cX2_numberBits 60 = .ok (.sipush 128, 3) := by decide +kernel
theorem dX2_numberBits_63 : decode cX2_numberBits 63 = .ok (.if_icmp .ge 8, 3) := by decide +kernel
theorem dX2_numberBits_66 : decode cX2_numberBits 66 = .ok (.bipush 13, 2) := by decide +kernel
theorem dX2_numberBits_68 : decode cX2_numberBits 68 = .ok (.goto 5, 3) := by decide +kernel
theorem dX2_numberBits_71 : decode cX2_numberBits 71 = .ok (.bipush 15, 2) := by decide +kernel
theorem dX2_numberBits_73 : decode cX2_numberBits 73 = .ok (.ireturn, 1) := by decide +kernel
set_option maxRecDepth 20000 in
theorem ggX2_matchBits_X2_numberBits : GoodIn wsX2_matchBits wsX2_numberBits := goodIn_r _ [4] (by decide +kernel) (by decide +kernel)
set_option maxRecDepth 20000 in
theorem gX2_matchBits_X2_numberBits : GoodIn wsX2_matchBits (va_wsS RX2 7 yX2_numberBits wsX2_numberBits) := goodIn_app (goodIn_of _ (by decide +kernel)) ggX2_matchBits_X2_numberBits
theorem dX2_matchBits_0 : decode cX2_matchBits 0 = .ok (.iconst 2, 1) := by decide +kernel
theorem dX2_matchBits_1 : decode cX2_matchBits 1 = .ok (.iload_n 0, 1) := by decide +kernel
theorem dX2_matchBits_2 : decode cX2_matchBits 2 = .ok (.invokestatic 7, 3) := by decide +kernel
theorem dX2_matchBits_5 : decode cX2_matchBits 5 = .ok (.iadd, 1) := by decide +kernel
theorem dX2_matchBits_6 : decode cX2_matchBits 6 = .ok (.iload_n 1, 1) := by decide +kernel
theorem dX2_matchBits_7 : decode cX2_matchBits 7 = .ok (.iconst 1, 1) := by decide +kernel
theorem dX2_matchBits_8 : decode cX2_matchBits 8 = .ok (.isub, 1) := by decide +kernel
theorem dX2_matchBits_9 : decode cX2_matchBits 9 = .ok (.invokestatic 7, 3) := by decide +kernel
theorem dX2_matchBits_12 : decode cX2_matchBits 12 = .ok (.iadd, 1) := by decide +kernel
theorem dX2_matchBits_13 : decode cX2_matchBits 13 = .ok (.ireturn, 1) := by decide +kernel
set_option maxRecDepth 20000 in
theorem ggX2_againBits_X2_numberBits : GoodIn wsX2_againBits wsX2_numberBits := goodIn_r _ [4] (by decide +kernel) (by decide +kernel)
set_option maxRecDepth 20000 in
theorem gX2_againBits_X2_numberBits : GoodIn wsX2_againBits (va_wsS RX2 7 yX2_numberBits wsX2_numberBits) := goodIn_app (goodIn_of _ (by decide +kernel)) ggX2_againBits_X2_numberBits
theorem dX2_againBits_0 : decode cX2_againBits 0 = .ok (.iconst 2, 1) := by decide +kernel
theorem dX2_againBits_1 : decode cX2_againBits 1 = .ok (.iload_n 0, 1) := by decide +kernel
theorem dX2_againBits_2 : decode cX2_againBits 2 = .ok (.invokestatic 7, 3) := by decide +kernel
theorem dX2_againBits_5 : decode cX2_againBits 5 = .ok (.iadd, 1) := by decide +kernel
theorem dX2_againBits_6 : decode cX2_againBits 6 = .ok (.ireturn, 1) := by decide +kernel
theorem dX3_init_0 : decode cX3_init 0 = .ok (.aload_n 0, 1) := by decide +kernel
theorem dX3_init_1 : decode cX3_init 1 = .ok (.invokespecial 1, 3) := by decide +kernel
theorem dX3_init_4 : decode cX3_init 4 = .ok (.aload_n 0, 1) := by decide +kernel
theorem dX3_init_5 : decode cX3_init 5 = .ok (.aload_n 1, 1) := by decide +kernel
theorem dX3_init_6 : decode cX3_init 6 = .ok (.putfield 7, 3) := by decide +kernel
theorem dX3_init_9 : decode cX3_init 9 = .ok (.aload_n 0, 1) := by decide +kernel
theorem dX3_init_10 : decode cX3_init 10 = .ok (.aload_n 2, 1) := by decide +kernel
theorem dX3_init_11 : decode cX3_init 11 = .ok (.putfield 13, 3) := by decide +kernel
theorem dX3_init_14 : decode cX3_init 14 = .ok (.return_, 1) := by decide +kernel
set_option maxRecDepth 20000 in
theorem ggX3_againLength_X8_sameFrom : GoodIn wsX3_againLength wsX8_sameFrom := goodIn_r _ [12, 13, 14, 21, 22] (by decide +kernel) (by decide +kernel)
set_option maxRecDepth 20000 in
theorem gX3_againLength_X8_sameFrom : GoodIn wsX3_againLength (wsV RX3 17 RX8 yX8_sameFrom wsX8_sameFrom) := goodIn_app (goodIn_of _ (by decide +kernel)) ggX3_againLength_X8_sameFrom
theorem dX3_againLength_0 : decode cX3_againLength 0 = .ok (.aload_n 0, 1) := by decide +kernel
theorem dX3_againLength_1 : decode cX3_againLength 1 = .ok (.getfield 7, 3) := by decide +kernel
theorem dX3_againLength_4 : decode cX3_againLength 4 = .ok (.iload_n 1, 1) := by decide +kernel
theorem dX3_againLength_5 : decode cX3_againLength 5 = .ok (.iload_n 2, 1) := by decide +kernel
theorem dX3_againLength_6 : decode cX3_againLength 6 = .ok (.invokevirtual 17, 3) := by decide +kernel
theorem dX3_againLength_9 : decode cX3_againLength 9 = .ok (.aload_n 0, 1) := by decide +kernel
theorem dX3_againLength_10 : decode cX3_againLength 10 = .ok (.getfield 13, 3) := by decide +kernel
theorem dX3_againLength_13 : decode cX3_againLength 13 = .ok (.getfield 23, 3) := by decide +kernel
theorem dX3_againLength_16 : decode cX3_againLength 16 = .ok (.invokestatic 29, 3) := by decide +kernel
theorem dX3_againLength_19 : decode cX3_againLength 19 = .ok (.ireturn, 1) := by decide +kernel
set_option maxRecDepth 20000 in
theorem ggX3_matchLength_X3_againLength : GoodIn wsX3_matchLength wsX3_againLength := goodIn_r _ [15, 16, 1, 17, 3, 4, 5, 6, 18, 19, 20, 21, 22, 23, 24, 25, 26, 27, 28, 29, 30, 31, 32] (by decide +kernel) (by decide +kernel)
set_option maxRecDepth 20000 in
theorem gX3_matchLength_X3_againLength : GoodIn wsX3_matchLength (wsV RX3 37 RX3 yX3_againLength wsX3_againLength) := goodIn_app (goodIn_of _ (by decide +kernel)) ggX3_matchLength_X3_againLength
theorem dX3_matchLength_0 : decode cX3_matchLength 0 = .ok (.iload_n 1, 1) := by decide +kernel
theorem dX3_matchLength_1 : decode cX3_matchLength 1 = .ok (.aload_n 0, 1) := by decide +kernel
theorem dX3_matchLength_2 : decode cX3_matchLength 2 = .ok (.getfield 13, 3) := by decide +kernel
theorem dX3_matchLength_5 : decode cX3_matchLength 5 = .ok (.getfield 34, 3) := by decide +kernel
theorem dX3_matchLength_8 : decode cX3_matchLength 8 = .ok (.invokestatic 29, 3) := by decide +kernel
theorem dX3_matchLength_11 : decode cX3_matchLength 11 = .ok (.istore_n 2, 1) := by decide +kernel
theorem dX3_matchLength_12 : decode cX3_matchLength 12 = .ok (.iconst 0, 1) := by decide +kernel
theorem dX3_matchLength_13 : decode cX3_matchLength 13 = .ok (.istore_n 3, 1) := by decide +kernel
theorem dX3_matchLength_14 : decode cX3_matchLength 14 = .ok (.iconst 1, 1) := by decide +kernel
theorem dX3_matchLength_15 : decode cX3_matchLength 15 = .ok (.istore 4, 2) := by decide +kernel
theorem dX3_matchLength_17 : decode cX3_matchLength 17 = .ok (.iload 4, 2) := by decide +kernel
theorem dX3_matchLength_19 : decode cX3_matchLength 19 = .ok (.iload_n 2, 1) := by decide +kernel
theorem dX3_matchLength_20 : decode cX3_matchLength 20 = .ok (.if_icmp .gt 21, 3) := by decide +kernel
theorem dX3_matchLength_23 : decode cX3_matchLength 23 = .ok (.iload_n 3, 1) := by decide +kernel
theorem dX3_matchLength_24 : decode cX3_matchLength 24 = .ok (.aload_n 0, 1) := by decide +kernel
theorem dX3_matchLength_25 : decode cX3_matchLength 25 = .ok (.iload_n 1, 1) := by decide +kernel
theorem dX3_matchLength_26 : decode cX3_matchLength 26 = .ok (.iload 4, 2) := by decide +kernel
theorem dX3_matchLength_28 : decode cX3_matchLength 28 = .ok (.invokevirtual 37, 3) := by decide +kernel
theorem dX3_matchLength_31 : decode cX3_matchLength 31 = .ok (.invokestatic 40, 3) := by decide +kernel
theorem dX3_matchLength_34 : decode cX3_matchLength 34 = .ok (.istore_n 3, 1) := by decide +kernel
theorem dX3_matchLength_35 : decode cX3_matchLength 35 = .ok (.iinc 4 1, 3) := by decide +kernel
theorem dX3_matchLength_38 : decode cX3_matchLength 38 = .ok (.goto (-21), 3) := by decide +kernel
theorem dX3_matchLength_41 : decode cX3_matchLength 41 = .ok (.iload_n 3, 1) := by decide +kernel
theorem dX3_matchLength_42 : decode cX3_matchLength 42 = .ok (.aload_n 0, 1) := by decide +kernel
theorem dX3_matchLength_43 : decode cX3_matchLength 43 = .ok (.getfield 13, 3) := by decide +kernel
theorem dX3_matchLength_46 : decode cX3_matchLength 46 = .ok (.getfield 43, 3) := by decide +kernel
theorem dX3_matchLength_49 : decode cX3_matchLength 49 = .ok (.if_icmp .ge 7, 3) := by decide +kernel
theorem dX3_matchLength_52 : decode cX3_matchLength 52 = .ok (.iconst 0, 1) := by decide +kernel
theorem dX3_matchLength_53 : decode cX3_matchLength 53 = .ok (.goto 4, 3) := by decide +kernel
theorem dX3_matchLength_56 : decode cX3_matchLength 56 = .ok (.iload_n 3, 1) := by decide +kernel
theorem dX3_matchLength_57 : decode cX3_matchLength 57 = .ok (.ireturn, 1) := by decide +kernel
set_option maxRecDepth 20000 in
theorem ggX3_matchDistance_X3_againLength : GoodIn wsX3_matchDistance wsX3_againLength := goodIn_r _ [11, 12, 1, 13, 3, 4, 5, 6, 14, 15, 16, 17, 18, 19, 20, 21, 22, 23, 24, 25, 26, 27, 28] (by decide +kernel) (by decide +kernel)
set_option maxRecDepth 20000 in
theorem gX3_matchDistance_X3_againLength : GoodIn wsX3_matchDistance (wsV RX3 37 RX3 yX3_againLength wsX3_againLength) := goodIn_app (goodIn_of _ (by decide +kernel)) ggX3_matchDistance_X3_againLength
theorem dX3_matchDistance_0 : decode cX3_matchDistance 0 = .ok (.iload_n 2, 1) := by decide +kernel
theorem dX3_matchDistance_1 : decode cX3_matchDistance 1 = .ok (.ifCond .ne 7, 3) := by decide +kernel
theorem dX3_matchDistance_4 : decode cX3_matchDistance 4 = .ok (.iconst 0, 1) := by decide +kernel
theorem dX3_matchDistance_5 : decode cX3_matchDistance 5 = .ok (.goto 14, 3) := by decide +kernel
theorem dX3_matchDistance_8 : decode cX3_matchDistance 8 = .ok (.iload_n 1, 1) := by decide +kernel
theorem dX3_matchDistance_9 : decode cX3_matchDistance 9 = .ok (.aload_n 0, 1) := by decide +kernel
theorem dX3_matchDistance_10 : decode cX3_matchDistance 10 = .ok (.getfield 13, 3) := by decide +kernel
theorem dX3_matchDistance_13 : decode cX3_matchDistance 13 = .ok (.getfield 34, 3) := by decide +kernel
theorem dX3_matchDistance_16 : decode cX3_matchDistance 16 = .ok (.invokestatic 29, 3) := by decide +kernel
theorem dX3_matchDistance_19 : decode cX3_matchDistance 19 = .ok (.istore_n 3, 1) := by decide +kernel
theorem dX3_matchDistance_20 : decode cX3_matchDistance 20 = .ok (.iconst 1, 1) := by decide +kernel
theorem dX3_matchDistance_21 : decode cX3_matchDistance 21 = .ok (.istore 4, 2) := by decide +kernel
theorem dX3_matchDistance_23 : decode cX3_matchDistance 23 = .ok (.iload 4, 2) := by decide +kernel
theorem dX3_matchDistance_25 : decode cX3_matchDistance 25 = .ok (.iload_n 3, 1) := by decide +kernel
theorem dX3_matchDistance_26 : decode cX3_matchDistance 26 = .ok (.if_icmp .gt 23, 3) := by decide +kernel
theorem dX3_matchDistance_29 : decode cX3_matchDistance 29 = .ok (.aload_n 0, 1) := by decide +kernel
theorem dX3_matchDistance_30 : decode cX3_matchDistance 30 = .ok (.iload_n 1, 1) := by decide +kernel
theorem dX3_matchDistance_31 : decode cX3_matchDistance 31 = .ok (.iload 4, 2) := by decide +kernel
theorem dX3_matchDistance_33 : decode cX3_matchDistance 33 = .ok (.invokevirtual 37, 3) := by decide +kernel
theorem dX3_matchDistance_36 : decode cX3_matchDistance 36 = .ok (.iload_n 2, 1) := by decide +kernel
theorem dX3_matchDistance_37 : decode cX3_matchDistance 37 = .ok (.if_icmp .ne 6, 3) := by decide +kernel
theorem dX3_matchDistance_40 : decode cX3_matchDistance 40 = .ok (.iload 4, 2) := by decide +kernel
theorem dX3_matchDistance_42 : decode cX3_matchDistance 42 = .ok (.ireturn, 1) := by decide +kernel
theorem dX3_matchDistance_43 : decode cX3_matchDistance 43 = .ok (.iinc 4 1, 3) := by decide +kernel
theorem dX3_matchDistance_46 : decode cX3_matchDistance 46 = .ok (.goto (-23), 3) := by decide +kernel
theorem dX3_matchDistance_49 : decode cX3_matchDistance 49 = .ok (.iconst 0, 1) := by decide +kernel
theorem dX3_matchDistance_50 : decode cX3_matchDistance 50 = .ok (.ireturn, 1) := by decide +kernel
theorem dX4_init_0 : decode cX4_init 0 = .ok (.aload_n 0, 1) := by decide +kernel
theorem dX4_init_1 : decode cX4_init 1 = .ok (.invokespecial 3, 3) := by decide +kernel
theorem dX4_init_4 : decode cX4_init 4 = .ok (.aload_n 0, 1) := by decide +kernel
theorem dX4_init_5 : decode cX4_init 5 = .ok (.bipush 64, 2) := by decide +kernel
theorem dX4_init_7 : decode cX4_init 7 = .ok (.newarray .int, 2) := by decide +kernel
theorem dX4_init_9 : decode cX4_init 9 = .ok (.putfield 9, 3) := by decide +kernel
theorem dX4_init_12 : decode cX4_init 12 = .ok (.aload_n 0, 1) := by decide +kernel
theorem dX4_init_13 : decode cX4_init 13 = .ok (.bipush 64, 2) := by decide +kernel
theorem dX4_init_15 : decode cX4_init 15 = .ok (.newarray .int, 2) := by decide +kernel
theorem dX4_init_17 : decode cX4_init 17 = .ok (.putfield 15, 3) := by decide +kernel
theorem dX4_init_20 : decode cX4_init 20 = .ok (.aload_n 0, 1) := by decide +kernel
theorem dX4_init_21 : decode cX4_init 21 = .ok (.bipush 64, 2) := by decide +kernel
theorem dX4_init_23 : decode cX4_init 23 = .ok (.newarray .int, 2) := by decide +kernel
theorem dX4_init_25 : decode cX4_init 25 = .ok (.putfield 18, 3) := by decide +kernel
theorem dX4_init_28 : decode cX4_init 28 = .ok (.aload_n 0, 1) := by decide +kernel
theorem dX4_init_29 : decode cX4_init 29 = .ok (.bipush 64, 2) := by decide +kernel
theorem dX4_init_31 : decode cX4_init 31 = .ok (.newarray .int, 2) := by decide +kernel
theorem dX4_init_33 : decode cX4_init 33 = .ok (.putfield 21, 3) := by decide +kernel
theorem dX4_init_36 : decode cX4_init 36 = .ok (.aload_n 0, 1) := by decide +kernel
theorem dX4_init_37 : decode cX4_init 37 = .ok (.iconst 0, 1) := by decide +kernel
theorem dX4_init_38 : decode cX4_init 38 = .ok (.putfield 24, 3) := by decide +kernel
theorem dX4_init_41 : decode cX4_init 41 = .ok (.aload_n 0, 1) := by decide +kernel
theorem dX4_init_42 : decode cX4_init 42 = .ok (.iconst 0, 1) := by decide +kernel
theorem dX4_init_43 : decode cX4_init 43 = .ok (.putfield 28, 3) := by decide +kernel
theorem dX4_init_46 : decode cX4_init 46 = .ok (.return_, 1) := by decide +kernel
theorem dX4_forget_0 : decode cX4_forget 0 = .ok (.aload_n 0, 1) := by decide +kernel
theorem dX4_forget_1 : decode cX4_forget 1 = .ok (.iconst 0, 1) := by decide +kernel
theorem dX4_forget_2 : decode cX4_forget 2 = .ok (.putfield 28, 3) := by decide +kernel
theorem dX4_forget_5 : decode cX4_forget 5 = .ok (.aload_n 0, 1) := by decide +kernel
theorem dX4_forget_6 : decode cX4_forget 6 = .ok (.iconst 0, 1) := by decide +kernel
theorem dX4_forget_7 : decode cX4_forget 7 = .ok (.putfield 24, 3) := by decide +kernel
theorem dX4_forget_10 : decode cX4_forget 10 = .ok (.return_, 1) := by decide +kernel
theorem dX4_begin_0 : decode cX4_begin 0 = .ok (.aload_n 0, 1) := by decide +kernel
theorem dX4_begin_1 : decode cX4_begin 1 = .ok (.iconst 1, 1) := by decide +kernel
theorem dX4_begin_2 : decode cX4_begin 2 = .ok (.putfield 28, 3) := by decide +kernel
theorem dX4_begin_5 : decode cX4_begin 5 = .ok (.aload_n 0, 1) := by decide +kernel
theorem dX4_begin_6 : decode cX4_begin 6 = .ok (.iconst 0, 1) := by decide +kernel
theorem dX4_begin_7 : decode cX4_begin 7 = .ok (.putfield 24, 3) := by decide +kernel
theorem dX4_begin_10 : decode cX4_begin 10 = .ok (.return_, 1) := by decide +kernel
theorem dX4_add_0 : decode cX4_add 0 = .ok (.aload_n 0, 1) := by decide +kernel
theorem dX4_add_1 : decode cX4_add 1 = .ok (.getfield 24, 3) := by decide +kernel
theorem dX4_add_4 : decode cX4_add 4 = .ok (.bipush 64, 2) := by decide +kernel
theorem dX4_add_6 : decode cX4_add 6 = .ok (.if_icmp .ge 54, 3) := by decide +kernel
theorem dX4_add_9 : decode cX4_add 9 = .ok (.aload_n 0, 1) := by decide +kernel
theorem dX4_add_10 : decode cX4_add 10 = .ok (.getfield 9, 3) := by decide +kernel
theorem dX4_add_13 : decode cX4_add 13 = .ok (.aload_n 0, 1) := by decide +kernel
theorem dX4_add_14 : decode cX4_add 14 = .ok (.getfield 24, 3) := by decide +kernel
theorem dX4_add_17 : decode cX4_add 17 = .ok (.iload_n 1, 1) := by decide +kernel
theorem dX4_add_18 : decode cX4_add 18 = .ok (.iastore, 1) := by decide +kernel
theorem dX4_add_19 : decode cX4_add 19 = .ok (.aload_n 0, 1) := by decide +kernel
theorem dX4_add_20 : decode cX4_add 20 = .ok (.getfield 15, 3) := by decide +kernel
theorem dX4_add_23 : decode cX4_add 23 = .ok (.aload_n 0, 1) := by decide +kernel
theorem dX4_add_24 : decode cX4_add 24 = .ok (.getfield 24, 3) := by decide +kernel
theorem dX4_add_27 : decode cX4_add 27 = .ok (.iload_n 2, 1) := by decide +kernel
theorem dX4_add_28 : decode cX4_add 28 = .ok (.iastore, 1) := by decide +kernel
theorem dX4_add_29 : decode cX4_add 29 = .ok (.aload_n 0, 1) := by decide +kernel
theorem dX4_add_30 : decode cX4_add 30 = .ok (.getfield 18, 3) := by decide +kernel
theorem dX4_add_33 : decode cX4_add 33 = .ok (.aload_n 0, 1) := by decide +kernel
theorem dX4_add_34 : decode cX4_add 34 = .ok (.getfield 24, 3) := by decide +kernel
theorem dX4_add_37 : decode cX4_add 37 = .ok (.iload_n 3, 1) := by decide +kernel
theorem dX4_add_38 : decode cX4_add 38 = .ok (.iastore, 1) := by decide +kernel
theorem dX4_add_39 : decode cX4_add 39 = .ok (.aload_n 0, 1) := by decide +kernel
theorem dX4_add_40 : decode cX4_add 40 = .ok (.getfield 21, 3) := by decide +kernel
theorem dX4_add_43 : decode cX4_add 43 = .ok (.aload_n 0, 1) := by decide +kernel
theorem dX4_add_44 : decode cX4_add 44 = .ok (.getfield 24, 3) := by decide +kernel
theorem dX4_add_47 : decode cX4_add 47 = .ok (.iload 4, 2) := by decide +kernel
theorem dX4_add_49 : decode cX4_add 49 = .ok (.iastore, 1) := by decide +kernel
theorem dX4_add_50 : decode cX4_add 50 = .ok (.aload_n 0, 1) := by decide +kernel
theorem dX4_add_51 : decode cX4_add 51 = .ok (.dup, 1) := by decide +kernel
theorem dX4_add_52 : decode cX4_add 52 = .ok (.getfield 24, 3) := by decide +kernel
theorem dX4_add_55 : decode cX4_add 55 = .ok (.iconst 1, 1) := by decide +kernel
theorem dX4_add_56 : decode cX4_add 56 = .ok (.iadd, 1) := by decide +kernel
theorem dX4_add_57 : decode cX4_add 57 = .ok (.putfield 24, 3) := by decide +kernel
theorem dX4_add_60 : decode cX4_add 60 = .ok (.return_, 1) := by decide +kernel
theorem dX4_bytesOfKind_0 : decode cX4_bytesOfKind 0 = .ok (.iconst 0, 1) := by decide +kernel
theorem dX4_bytesOfKind_1 : decode cX4_bytesOfKind 1 = .ok (.istore_n 2, 1) := by decide +kernel
theorem dX4_bytesOfKind_2 : decode cX4_bytesOfKind 2 = .ok (.iconst 0, 1) := by decide +kernel
theorem dX4_bytesOfKind_3 : decode cX4_bytesOfKind 3 = .ok (.istore_n 3, 1) := by decide +kernel
theorem dX4_bytesOfKind_4 : decode cX4_bytesOfKind 4 = .ok (.iload_n 3, 1) := by decide +kernel
theorem dX4_bytesOfKind_5 : decode cX4_bytesOfKind 5 = .ok (.aload_n 0, 1) := by decide +kernel
theorem dX4_bytesOfKind_6 : decode cX4_bytesOfKind 6 = .ok (.getfield 24, 3) := by decide +kernel
theorem dX4_bytesOfKind_9 : decode cX4_bytesOfKind 9 = .ok (.if_icmp .ge 28, 3) := by decide +kernel
theorem dX4_bytesOfKind_12 : decode cX4_bytesOfKind 12 = .ok (.aload_n 0, 1) := by decide +kernel
theorem dX4_bytesOfKind_13 : decode cX4_bytesOfKind 13 = .ok (.getfield 9, 3) := by decide +kernel
theorem dX4_bytesOfKind_16 : decode cX4_bytesOfKind 16 = .ok (.iload_n 3, 1) := by decide +kernel
theorem dX4_bytesOfKind_17 : decode cX4_bytesOfKind 17 = .ok (.iaload, 1) := by decide +kernel
theorem dX4_bytesOfKind_18 : decode cX4_bytesOfKind 18 = .ok (.iload_n 1, 1) := by decide +kernel
theorem dX4_bytesOfKind_19 : decode cX4_bytesOfKind 19 = .ok (.if_icmp .ne 12, 3) := by decide +kernel
theorem dX4_bytesOfKind_22 : decode cX4_bytesOfKind 22 = .ok (.iload_n 2, 1) := by decide +kernel
theorem dX4_bytesOfKind_23 : decode cX4_bytesOfKind 23 = .ok (.aload_n 0, 1) := by decide +kernel
theorem dX4_bytesOfKind_24 : decode cX4_bytesOfKind 24 = .ok (.getfield 15, 3) := by decide +kernel
theorem dX4_bytesOfKind_27 : decode cX4_bytesOfKind 27 = .ok (.iload_n 3, 1) := by decide +kernel
theorem dX4_bytesOfKind_28 : decode cX4_bytesOfKind 28 = .ok (.iaload, 1) := by decide +kernel
theorem dX4_bytesOfKind_29 : decode cX4_bytesOfKind 29 = .ok (.iadd, 1) := by decide +kernel
theorem dX4_bytesOfKind_30 : decode cX4_bytesOfKind 30 = .ok (.istore_n 2, 1) := by decide +kernel
theorem dX4_bytesOfKind_31 : decode cX4_bytesOfKind 31 = .ok (.iinc 3 1, 3) := by decide +kernel
theorem dX4_bytesOfKind_34 : decode cX4_bytesOfKind 34 = .ok (.goto (-30), 3) := by decide +kernel
theorem dX4_bytesOfKind_37 : decode cX4_bytesOfKind 37 = .ok (.iload_n 2, 1) := by decide +kernel
theorem dX4_bytesOfKind_38 : decode cX4_bytesOfKind 38 = .ok (.ireturn, 1) := by decide +kernel
set_option maxRecDepth 20000 in
theorem ggX4_bitsOfAll_X4_bitsOf : GoodIn wsX4_bitsOfAll wsX4_bitsOf := goodIn_r _ [6, 7, 8, 9, 10, 11, 12, 13, 14, 15, 16, 17, 18, 19, 20, 21, 22, 23, 24, 25] (by decide +kernel) (by decide +kernel)
set_option maxRecDepth 20000 in
theorem gX4_bitsOfAll_X4_bitsOf : GoodIn wsX4_bitsOfAll (wsV RX4 32 RX4 yX4_bitsOf wsX4_bitsOf) := goodIn_app (goodIn_of _ (by decide +kernel)) ggX4_bitsOfAll_X4_bitsOf
theorem dX4_bitsOfAll_0 : decode cX4_bitsOfAll 0 = .ok (.iconst 0, 1) := by decide +kernel
theorem dX4_bitsOfAll_1 : decode cX4_bitsOfAll 1 = .ok (.istore_n 1, 1) := by decide +kernel
theorem dX4_bitsOfAll_2 : decode cX4_bitsOfAll 2 = .ok (.iconst 0, 1) := by decide +kernel
theorem dX4_bitsOfAll_3 : decode cX4_bitsOfAll 3 = .ok (.istore_n 2, 1) := by decide +kernel
theorem dX4_bitsOfAll_4 : decode cX4_bitsOfAll 4 = .ok (.iload_n 2, 1) := by decide +kernel
theorem dX4_bitsOfAll_5 : decode cX4_bitsOfAll 5 = .ok (.aload_n 0, 1) := by decide +kernel
theorem dX4_bitsOfAll_6 : decode cX4_bitsOfAll 6 = .ok (.getfield 24, 3) := by decide +kernel
theorem dX4_bitsOfAll_9 : decode cX4_bitsOfAll 9 = .ok (.if_icmp .ge 17, 3) := by decide +kernel
theorem dX4_bitsOfAll_12 : decode cX4_bitsOfAll 12 = .ok (.iload_n 1, 1) := by decide +kernel
theorem dX4_bitsOfAll_13 : decode cX4_bitsOfAll 13 = .ok (.aload_n 0, 1) := by decide +kernel
theorem dX4_bitsOfAll_14 : decode cX4_bitsOfAll 14 = .ok (.iload_n 2, 1) := by decide +kernel
theorem dX4_bitsOfAll_15 : decode cX4_bitsOfAll 15 = .ok (.invokevirtual 32, 3) := by decide +kernel
theorem dX4_bitsOfAll_18 : decode cX4_bitsOfAll 18 = .ok (.iadd, 1) := by decide +kernel
theorem dX4_bitsOfAll_19 : decode cX4_bitsOfAll 19 = .ok (.istore_n 1, 1) := by decide +kernel
theorem dX4_bitsOfAll_20 : decode cX4_bitsOfAll 20 = .ok (.iinc 2 1, 3) := by decide +kernel
theorem dX4_bitsOfAll_23 : decode cX4_bitsOfAll 23 = .ok (.goto (-19), 3) := by decide +kernel
theorem dX4_bitsOfAll_26 : decode cX4_bitsOfAll 26 = .ok (.iload_n 1, 1) := by decide +kernel
theorem dX4_bitsOfAll_27 : decode cX4_bitsOfAll 27 = .ok (.ireturn, 1) := by decide +kernel
set_option maxRecDepth 20000 in
theorem ggX4_bitsOf_X2_matchBits : GoodIn wsX4_bitsOf wsX2_matchBits := goodIn_r _ [7, 8, 9, 6, 10] (by decide +kernel) (by decide +kernel)
set_option maxRecDepth 20000 in
theorem gX4_bitsOf_X2_matchBits : GoodIn wsX4_bitsOf (va_wsS RX4 38 yX2_matchBits wsX2_matchBits) := goodIn_app (goodIn_of _ (by decide +kernel)) ggX4_bitsOf_X2_matchBits
set_option maxRecDepth 20000 in
theorem ggX4_bitsOf_X2_againBits : GoodIn wsX4_bitsOf wsX2_againBits := goodIn_r _ [13, 8, 9, 6, 10] (by decide +kernel) (by decide +kernel)
set_option maxRecDepth 20000 in
theorem gX4_bitsOf_X2_againBits : GoodIn wsX4_bitsOf (va_wsS RX4 42 yX2_againBits wsX2_againBits) := goodIn_app (goodIn_of _ (by decide +kernel)) ggX4_bitsOf_X2_againBits
theorem dX4_bitsOf_0 : decode cX4_bitsOf 0 = .ok (.aload_n 0, 1) := by decide +kernel
theorem dX4_bitsOf_1 : decode cX4_bitsOf 1 = .ok (.getfield 9, 3) := by decide +kernel
theorem dX4_bitsOf_4 : decode cX4_bitsOf 4 = .ok (.iload_n 1, 1) := by decide +kernel
theorem dX4_bitsOf_5 : decode cX4_bitsOf 5 = .ok (.iaload, 1) := by decide +kernel
theorem dX4_bitsOf_6 : decode cX4_bitsOf 6 = .ok (.ifCond .ne 6, 3) := by decide +kernel
theorem dX4_bitsOf_9 : decode cX4_bitsOf 9 = .ok (.bipush 9, 2) := by decide +kernel
theorem dX4_bitsOf_11 : decode cX4_bitsOf 11 = .ok (.ireturn, 1) := by decide +kernel
theorem dX4_bitsOf_12 : decode cX4_bitsOf 12 = .ok (.aload_n 0, 1) := by decide +kernel
theorem dX4_bitsOf_13 : decode cX4_bitsOf 13 = .ok (.getfield 9, 3) := by decide +kernel
theorem dX4_bitsOf_16 : decode cX4_bitsOf 16 = .ok (.iload_n 1, 1) := by decide +kernel
theorem dX4_bitsOf_17 : decode cX4_bitsOf 17 = .ok (.iaload, 1) := by decide +kernel
theorem dX4_bitsOf_18 : decode cX4_bitsOf 18 = .ok (.iconst 1, 1) := by decide +kernel
theorem dX4_bitsOf_19 : decode cX4_bitsOf 19 = .ok (.if_icmp .ne 19, 3) := by decide +kernel
theorem dX4_bitsOf_22 : decode cX4_bitsOf 22 = .ok (.aload_n 0, 1) := by decide +kernel
theorem dX4_bitsOf_23 : decode cX4_bitsOf 23 = .ok (.getfield 18, 3) := by decide +kernel
theorem dX4_bitsOf_26 : decode cX4_bitsOf 26 = .ok (.iload_n 1, 1) := by decide +kernel
theorem dX4_bitsOf_27 : decode cX4_bitsOf 27 = .ok (.iaload, 1) := by decide +kernel
theorem dX4_bitsOf_28 : decode cX4_bitsOf 28 = .ok (.aload_n 0, 1) := by decide +kernel
theorem dX4_bitsOf_29 : decode cX4_bitsOf 29 = .ok (.getfield 15, 3) := by decide +kernel
theorem dX4_bitsOf_32 : decode cX4_bitsOf 32 = .ok (.iload_n 1, 1) := by decide +kernel
theorem dX4_bitsOf_33 : decode cX4_bitsOf 33 = .ok (.iaload, 1) := by decide +kernel
theorem dX4_bitsOf_34 : decode cX4_bitsOf 34 = .ok (.invokestatic 38, 3) := by decide +kernel
theorem dX4_bitsOf_37 : decode cX4_bitsOf 37 = .ok (.ireturn, 1) := by decide +kernel
theorem dX4_bitsOf_38 : decode cX4_bitsOf 38 = .ok (.aload_n 0, 1) := by decide +kernel
theorem dX4_bitsOf_39 : decode cX4_bitsOf 39 = .ok (.getfield 15, 3) := by decide +kernel
theorem dX4_bitsOf_42 : decode cX4_bitsOf 42 = .ok (.iload_n 1, 1) := by decide +kernel
theorem dX4_bitsOf_43 : decode cX4_bitsOf 43 = .ok (.iaload, 1) := by decide +kernel
theorem dX4_bitsOf_44 : decode cX4_bitsOf 44 = .ok (.invokestatic 42, 3) := by decide +kernel
theorem dX4_bitsOf_47 : decode cX4_bitsOf 47 = .ok (.ireturn, 1) := by decide +kernel
theorem dX5_init_0 : decode cX5_init 0 = .ok (.aload_n 0, 1) := by decide +kernel
theorem dX5_init_1 : decode cX5_init 1 = .ok (.invokespecial 3, 3) := by decide +kernel
theorem dX5_init_4 : decode cX5_init 4 = .ok (.aload_n 0, 1) := by decide +kernel
theorem dX5_init_5 : decode cX5_init 5 = .ok (.aload_n 1, 1) := by decide +kernel
theorem dX5_init_6 : decode cX5_init 6 = .ok (.putfield 9, 3) := by decide +kernel
theorem dX5_init_9 : decode cX5_init 9 = .ok (.aload_n 0, 1) := by decide +kernel
theorem dX5_init_10 : decode cX5_init 10 = .ok (.aload_n 2, 1) := by decide +kernel
theorem dX5_init_11 : decode cX5_init 11 = .ok (.putfield 15, 3) := by decide +kernel
theorem dX5_init_14 : decode cX5_init 14 = .ok (.return_, 1) := by decide +kernel
set_option maxRecDepth 20000 in
theorem ggX5_choose_X4_begin : GoodIn wsX5_choose wsX4_begin := goodIn_r _ [8, 9, 10, 62, 63, 64, 65, 66, 67] (by decide +kernel) (by decide +kernel)
set_option maxRecDepth 20000 in
theorem gX5_choose_X4_begin : GoodIn wsX5_choose (wsV RX5 19 RX4 yX4_begin wsX4_begin) := goodIn_app (goodIn_of _ (by decide +kernel)) ggX5_choose_X4_begin
set_option maxRecDepth 20000 in
theorem ggX5_choose_X3_againLength : GoodIn wsX5_choose wsX3_againLength := goodIn_r _ [15, 16, 17, 18, 19, 20, 21, 22, 23, 24, 25, 26, 27, 28, 29, 68, 69, 70, 71, 72, 73, 60, 61] (by decide +kernel) (by decide +kernel)
set_option maxRecDepth 20000 in
theorem gX5_choose_X3_againLength : GoodIn wsX5_choose (wsV RX5 30 RX3 yX3_againLength wsX3_againLength) := goodIn_app (goodIn_of _ (by decide +kernel)) ggX5_choose_X3_againLength
set_option maxRecDepth 20000 in
theorem ggX5_choose_X3_matchLength : GoodIn wsX5_choose wsX3_matchLength := goodIn_r _ [33, 17, 34, 19, 20, 21, 22, 35, 36, 37, 38, 39, 12, 13, 14, 15, 16, 18, 23, 24, 25, 26, 27, 28, 29, 68, 69, 70, 71, 72, 73, 60, 61] (by decide +kernel) (by decide +kernel)
set_option maxRecDepth 20000 in
theorem gX5_choose_X3_matchLength : GoodIn wsX5_choose (wsV RX5 36 RX3 yX3_matchLength wsX3_matchLength) := goodIn_app (goodIn_of _ (by decide +kernel)) ggX5_choose_X3_matchLength
set_option maxRecDepth 20000 in
theorem ggX5_choose_X4_add : GoodIn wsX5_choose wsX4_add := goodIn_r _ [43, 10, 44, 45, 46, 47, 62, 63, 64, 65, 66, 67] (by decide +kernel) (by decide +kernel)
set_option maxRecDepth 20000 in
theorem gX5_choose_X4_add : GoodIn wsX5_choose (wsV RX5 40 RX4 yX4_add wsX4_add) := goodIn_app (goodIn_of _ (by decide +kernel)) ggX5_choose_X4_add
set_option maxRecDepth 20000 in
theorem ggX5_choose_X5_longestStep : GoodIn wsX5_choose wsX5_longestStep := goodIn_r _ [52, 3, 53, 36, 21, 37, 11, 12, 13, 14, 15, 16, 17, 18, 19, 20, 22, 23, 24, 25, 26, 27, 28, 29, 30, 31, 32, 33, 34, 35, 38, 39, 58, 59, 68, 69, 70, 71, 72, 73, 60, 61] (by decide +kernel) (by decide +kernel)
set_option maxRecDepth 20000 in
theorem gX5_choose_X5_longestStep : GoodIn wsX5_choose (wsV RX5 44 RX5 yX5_longestStep wsX5_longestStep) := goodIn_app (goodIn_of _ (by decide +kernel)) ggX5_choose_X5_longestStep
set_option maxRecDepth 20000 in
theorem ggX5_choose_X3_matchDistance : GoodIn wsX5_choose wsX3_matchDistance := goodIn_r _ [57, 17, 34, 19, 20, 21, 22, 39, 12, 13, 14, 15, 16, 18, 23, 24, 25, 26, 27, 28, 29, 68, 69, 70, 71, 72, 73, 60, 61] (by decide +kernel) (by decide +kernel)
set_option maxRecDepth 20000 in
theorem gX5_choose_X3_matchDistance : GoodIn wsX5_choose (wsV RX5 47 RX3 yX3_matchDistance wsX3_matchDistance) := goodIn_app (goodIn_of _ (by decide +kernel)) ggX5_choose_X3_matchDistance
theorem dX5_choose_0 : decode cX5_choose 0 = .ok (.aload_n 1, 1) := by decide +kernel
theorem dX5_choose_1 : decode cX5_choose 1 = .ok (.invokevirtual 19, 3) := by decide +kernel
theorem dX5_choose_4 : decode cX5_choose 4 = .ok (.iconst 0, 1) := by decide +kernel
theorem dX5_choose_5 : decode cX5_choose 5 = .ok (.istore_n 3, 1) := by decide +kernel
theorem dX5_choose_6 : decode cX5_choose 6 = .ok (.iconst 0, 1) := by decide +kernel
theorem dX5_choose_7 : decode cX5_choose 7 = .ok (.istore 4, 2) := by decide +kernel
theorem dX5_choose_9 : decode cX5_choose 9 = .ok (.iconst 0, 1) := by decide +kernel
theorem dX5_choose_10 : decode cX5_choose 10 = .ok (.istore 5, 2) := by decide +kernel
theorem dX5_choose_12 : decode cX5_choose 12 = .ok (.iload 5, 2) := by decide +kernel
theorem dX5_choose_14 : decode cX5_choose 14 = .ok (.bipush 64, 2) := by decide +kernel
theorem dX5_choose_16 : decode cX5_choose 16 = .ok (.if_icmp .ge 136, 3) := by decide +kernel
theorem dX5_choose_19 : decode cX5_choose 19 = .ok (.iload_n 3, 1) := by decide +kernel
theorem dX5_choose_20 : decode cX5_choose 20 = .ok (.aload_n 0, 1) := by decide +kernel
theorem dX5_choose_21 : decode cX5_choose 21 = .ok (.getfield 9, 3) := by decide +kernel
theorem dX5_choose_24 : decode cX5_choose 24 = .ok (.getfield 24, 3) := by decide +kernel
theorem dX5_choose_27 : decode cX5_choose 27 = .ok (.if_icmp .ge 125, 3) := by decide +kernel
theorem dX5_choose_30 : decode cX5_choose 30 = .ok (.aload_n 0, 1) := by decide +kernel
theorem dX5_choose_31 : decode cX5_choose 31 = .ok (.getfield 15, 3) := by decide +kernel
theorem dX5_choose_34 : decode cX5_choose 34 = .ok (.iload_n 3, 1) := by decide +kernel
theorem dX5_choose_35 : decode cX5_choose 35 = .ok (.iload 4, 2) := by decide +kernel
theorem dX5_choose_37 : decode cX5_choose 37 = .ok (.invokevirtual 30, 3) := by decide +kernel
theorem dX5_choose_40 : decode cX5_choose 40 = .ok (.istore 6, 2) := by decide +kernel
theorem dX5_choose_42 : decode cX5_choose 42 = .ok (.aload_n 0, 1) := by decide +kernel
theorem dX5_choose_43 : decode cX5_choose 43 = .ok (.getfield 15, 3) := by decide +kernel
theorem dX5_choose_46 : decode cX5_choose 46 = .ok (.iload_n 3, 1) := by decide +kernel
theorem dX5_choose_47 : decode cX5_choose 47 = .ok (.invokevirtual 36, 3) := by decide +kernel
theorem dX5_choose_50 : decode cX5_choose 50 = .ok (.istore 7, 2) := by decide +kernel
theorem dX5_choose_52 : decode cX5_choose 52 = .ok (.iload 6, 2) := by decide +kernel
theorem dX5_choose_54 : decode cX5_choose 54 = .ok (.ifCond .le 28, 3) := by decide +kernel
theorem dX5_choose_57 : decode cX5_choose 57 = .ok (.iload 6, 2) := by decide +kernel
theorem dX5_choose_59 : decode cX5_choose 59 = .ok (.iload 7, 2) := by decide +kernel
theorem dX5_choose_61 : decode cX5_choose 61 = .ok (.if_icmp .lt 21, 3) := by decide +kernel
theorem dX5_choose_64 : decode cX5_choose 64 = .ok (.aload_n 1, 1) := by decide +kernel
theorem dX5_choose_65 : decode cX5_choose 65 = .ok (.iconst 2, 1) := by decide +kernel
theorem dX5_choose_66 : decode cX5_choose 66 = .ok (.iload 6, 2) := by decide +kernel
theorem dX5_choose_68 : decode cX5_choose 68 = .ok (.iload 4, 2) := by decide +kernel
theorem dX5_choose_70 : decode cX5_choose 70 = .ok (.iload_n 3, 1) := by decide +kernel
theorem dX5_choose_71 : decode cX5_choose 71 = .ok (.invokevirtual 40, 3) := by decide +kernel
theorem dX5_choose_74 : decode cX5_choose 74 = .ok (.iload_n 3, 1) := by decide +kernel
theorem dX5_choose_75 : decode cX5_choose 75 = .ok (.iload 6, 2) := by decide +kernel
theorem dX5_choose_77 : decode cX5_choose 77 = .ok (.iadd, 1) := by decide +kernel
theorem dX5_choose_78 : decode cX5_choose 78 = .ok (.istore_n 3, 1) := by decide +kernel
theorem dX5_choose_79 : decode cX5_choose 79 = .ok (.goto 67, 3) := by decide +kernel
theorem dX5_choose_82 : decode cX5_choose 82 = .ok (.iload 7, 2) := by decide +kernel
theorem dX5_choose_84 : decode cX5_choose 84 = .ok (.ifCond .le 51, 3) := by decide +kernel
theorem dX5_choose_87 : decode cX5_choose 87 = .ok (.iload_n 2, 1) := by decide +kernel
theorem dX5_choose_88 : decode cX5_choose 88 = .ok (.ifCond .eq 17, 3) := by decide +kernel
theorem dX5_choose_91 : decode cX5_choose 91 = .ok (.aload_n 0, 1) := by decide +kernel
theorem dX5_choose_92 : decode cX5_choose 92 = .ok (.iload_n 3, 1) := by decide +kernel
theorem dX5_choose_93 : decode cX5_choose 93 = .ok (.iconst 1, 1) := by decide +kernel
theorem dX5_choose_94 : decode cX5_choose 94 = .ok (.iadd, 1) := by decide +kernel
theorem dX5_choose_95 : decode cX5_choose 95 = .ok (.iload 4, 2) := by decide +kernel
theorem dX5_choose_97 : decode cX5_choose 97 = .ok (.invokevirtual 44, 3) := by decide +kernel
theorem dX5_choose_100 : decode cX5_choose 100 = .ok (.iload 7, 2) := by decide +kernel
theorem dX5_choose_102 : decode cX5_choose 102 = .ok (.if_icmp .gt 33, 3) := by decide +kernel
theorem dX5_choose_105 : decode cX5_choose 105 = .ok (.aload_n 0, 1) := by decide +kernel
theorem dX5_choose_106 : decode cX5_choose 106 = .ok (.getfield 15, 3) := by decide +kernel
theorem dX5_choose_109 : decode cX5_choose 109 = .ok (.iload_n 3, 1) := by decide +kernel
theorem dX5_choose_110 : decode cX5_choose 110 = .ok (.iload 7, 2) := by decide +kernel
theorem dX5_choose_112 : decode cX5_choose 112 = .ok (.invokevirtual 47, 3) := by decide +kernel
theorem dX5_choose_115 : decode cX5_choose 115 = .ok (.istore 4, 2) := by decide +kernel
theorem dX5_choose_117 : decode cX5_choose 117 = .ok (.aload_n 1, 1) := by decide +kernel
theorem dX5_choose_118 : decode cX5_choose 118 = .ok (.iconst 1, 1) := by decide +kernel
theorem dX5_choose_119 : decode cX5_choose 119 = .ok (.iload 7, 2) := by decide +kernel
theorem dX5_choose_121 : decode cX5_choose 121 = .ok (.iload 4, 2) := by decide +kernel
theorem dX5_choose_123 : decode cX5_choose 123 = .ok (.iload_n 3, 1) := by decide +kernel
theorem dX5_choose_124 : decode cX5_choose 124 = .ok (.invokevirtual 40, 3) := by decide +kernel
theorem dX5_choose_127 : decode cX5_choose 127 = .ok (.iload_n 3, 1) := by decide +kernel
theorem dX5_choose_128 : decode cX5_choose 128 = .ok (.iload 7, 2) := by decide +kernel
theorem dX5_choose_130 : decode cX5_choose 130 = .ok (.iadd, 1) := by decide +kernel
theorem dX5_choose_131 : decode cX5_choose 131 = .ok (.istore_n 3, 1) := by decide +kernel
theorem dX5_choose_132 : decode cX5_choose 132 = .ok (.goto 14, 3) := by decide +kernel
theorem dX5_choose_135 : decode cX5_choose 135 = .ok (.aload_n 1, 1) := by decide +kernel
theorem dX5_choose_136 : decode cX5_choose 136 = .ok (.iconst 0, 1) := by decide +kernel
theorem dX5_choose_137 : decode cX5_choose 137 = .ok (.iconst 1, 1) := by decide +kernel
theorem dX5_choose_138 : decode cX5_choose 138 = .ok (.iconst 0, 1) := by decide +kernel
theorem dX5_choose_139 : decode cX5_choose 139 = .ok (.iload_n 3, 1) := by decide +kernel
theorem dX5_choose_140 : decode cX5_choose 140 = .ok (.invokevirtual 40, 3) := by decide +kernel
theorem dX5_choose_143 : decode cX5_choose 143 = .ok (.iinc 3 1, 3) := by decide +kernel
theorem dX5_choose_146 : decode cX5_choose 146 = .ok (.iinc 5 1, 3) := by decide +kernel
theorem dX5_choose_149 : decode cX5_choose 149 = .ok (.goto (-137), 3) := by decide +kernel
theorem dX5_choose_152 : decode cX5_choose 152 = .ok (.return_, 1) := by decide +kernel
set_option maxRecDepth 20000 in
theorem ggX5_longestStep_X3_againLength : GoodIn wsX5_longestStep wsX3_againLength := goodIn_r _ [10, 11, 12, 13, 14, 15, 4, 16, 17, 18, 19, 20, 21, 22, 23, 34, 35, 36, 37, 38, 39, 40, 41] (by decide +kernel) (by decide +kernel)
set_option maxRecDepth 20000 in
theorem gX5_longestStep_X3_againLength : GoodIn wsX5_longestStep (wsV RX5 30 RX3 yX3_againLength wsX3_againLength) := goodIn_app (goodIn_of _ (by decide +kernel)) ggX5_longestStep_X3_againLength
set_option maxRecDepth 20000 in
theorem ggX5_longestStep_X3_matchLength : GoodIn wsX5_longestStep wsX3_matchLength := goodIn_r _ [27, 12, 28, 14, 15, 4, 16, 29, 3, 5, 30, 31, 7, 8, 9, 10, 11, 13, 17, 18, 19, 20, 21, 22, 23, 34, 35, 36, 37, 38, 39, 40, 41] (by decide +kernel) (by decide +kernel)
set_option maxRecDepth 20000 in
theorem gX5_longestStep_X3_matchLength : GoodIn wsX5_longestStep (wsV RX5 36 RX3 yX3_matchLength wsX3_matchLength) := goodIn_app (goodIn_of _ (by decide +kernel)) ggX5_longestStep_X3_matchLength
theorem dX5_longestStep_0 : decode cX5_longestStep 0 = .ok (.aload_n 0, 1) := by decide +kernel
theorem dX5_longestStep_1 : decode cX5_longestStep 1 = .ok (.getfield 15, 3) := by decide +kernel
theorem dX5_longestStep_4 : decode cX5_longestStep 4 = .ok (.iload_n 1, 1) := by decide +kernel
theorem dX5_longestStep_5 : decode cX5_longestStep 5 = .ok (.iload_n 2, 1) := by decide +kernel
theorem dX5_longestStep_6 : decode cX5_longestStep 6 = .ok (.invokevirtual 30, 3) := by decide +kernel
theorem dX5_longestStep_9 : decode cX5_longestStep 9 = .ok (.aload_n 0, 1) := by decide +kernel
theorem dX5_longestStep_10 : decode cX5_longestStep 10 = .ok (.getfield 15, 3) := by decide +kernel
theorem dX5_longestStep_13 : decode cX5_longestStep 13 = .ok (.iload_n 1, 1) := by decide +kernel
theorem dX5_longestStep_14 : decode cX5_longestStep 14 = .ok (.invokevirtual 36, 3) := by decide +kernel
theorem dX5_longestStep_17 : decode cX5_longestStep 17 = .ok (.invokestatic 50, 3) := by decide +kernel
theorem dX5_longestStep_20 : decode cX5_longestStep 20 = .ok (.ireturn, 1) := by decide +kernel
theorem dX6_init_0 : decode cX6_init 0 = .ok (.aload_n 0, 1) := by decide +kernel
theorem dX6_init_1 : decode cX6_init 1 = .ok (.invokespecial 3, 3) := by decide +kernel
theorem dX6_init_4 : decode cX6_init 4 = .ok (.aload_n 0, 1) := by decide +kernel
theorem dX6_init_5 : decode cX6_init 5 = .ok (.sipush 200, 3) := by decide +kernel
theorem dX6_init_8 : decode cX6_init 8 = .ok (.newarray .int, 2) := by decide +kernel
theorem dX6_init_10 : decode cX6_init 10 = .ok (.putfield 9, 3) := by decide +kernel
theorem dX6_init_13 : decode cX6_init 13 = .ok (.aload_n 0, 1) := by decide +kernel
theorem dX6_init_14 : decode cX6_init 14 = .ok (.iconst 0, 1) := by decide +kernel
theorem dX6_init_15 : decode cX6_init 15 = .ok (.putfield 15, 3) := by decide +kernel
theorem dX6_init_18 : decode cX6_init 18 = .ok (.aload_n 0, 1) := by decide +kernel
theorem dX6_init_19 : decode cX6_init 19 = .ok (.iconst (-1), 1) := by decide +kernel
theorem dX6_init_20 : decode cX6_init 20 = .ok (.putfield 19, 3) := by decide +kernel
theorem dX6_init_23 : decode cX6_init 23 = .ok (.aload_n 0, 1) := by decide +kernel
theorem dX6_init_24 : decode cX6_init 24 = .ok (.iconst 0, 1) := by decide +kernel
theorem dX6_init_25 : decode cX6_init 25 = .ok (.putfield 22, 3) := by decide +kernel
theorem dX6_init_28 : decode cX6_init 28 = .ok (.aload_n 0, 1) := by decide +kernel
theorem dX6_init_29 : decode cX6_init 29 = .ok (.iconst 0, 1) := by decide +kernel
theorem dX6_init_30 : decode cX6_init 30 = .ok (.putfield 25, 3) := by decide +kernel
theorem dX6_init_33 : decode cX6_init 33 = .ok (.return_, 1) := by decide +kernel
set_option maxRecDepth 20000 in
theorem ggX6_readAll_X6_readToken : GoodIn wsX6_readAll wsX6_readToken := goodIn_r _ [10, 11, 12, 13, 9, 14, 3, 5, 15, 16, 17, 18, 19, 1, 20, 21, 22, 23, 24, 25, 26, 27, 28, 4, 29, 30, 31, 32, 33, 34, 35, 36, 37, 38, 39, 40, 41, 42, 43, 44, 45, 46, 47] (by decide +kernel) (by decide +kernel)
set_option maxRecDepth 20000 in
theorem gX6_readAll_X6_readToken : GoodIn wsX6_readAll (wsV RX6 31 RX6 yX6_readToken wsX6_readToken) := goodIn_app (goodIn_of _ (by decide +kernel)) ggX6_readAll_X6_readToken
theorem dX6_readAll_0 : decode cX6_readAll 0 = .ok (.aload_n 0, 1) := by decide +kernel
theorem dX6_readAll_1 : decode cX6_readAll 1 = .ok (.iconst 0, 1) := by decide +kernel
theorem dX6_readAll_2 : decode cX6_readAll 2 = .ok (.putfield 15, 3) := by decide +kernel
theorem dX6_readAll_5 : decode cX6_readAll 5 = .ok (.aload_n 0, 1) := by decide +kernel
theorem dX6_readAll_6 : decode cX6_readAll 6 = .ok (.iconst (-1), 1) := by decide +kernel
theorem dX6_readAll_7 : decode cX6_readAll 7 = .ok (.putfield 19, 3) := by decide +kernel
theorem dX6_readAll_10 : decode cX6_readAll 10 = .ok (.aload_n 0, 1) := by decide +kernel
theorem dX6_readAll_11 : decode cX6_readAll 11 = .ok (.iconst 0, 1) := by decide +kernel
theorem dX6_readAll_12 : decode cX6_readAll 12 = .ok (.putfield 22, 3) := by decide +kernel
theorem dX6_readAll_15 : decode cX6_readAll 15 = .ok (.aload_n 0, 1) := by decide +kernel
theorem dX6_readAll_16 : decode cX6_readAll 16 = .ok (.iconst 0, 1) := by decide +kernel
theorem dX6_readAll_17 : decode cX6_readAll 17 = .ok (.putfield 25, 3) := by decide +kernel
theorem dX6_readAll_20 : decode cX6_readAll 20 = .ok (.iconst 0, 1) := by decide +kernel
theorem dX6_readAll_21 : decode cX6_readAll 21 = .ok (.istore_n 2, 1) := by decide +kernel
theorem dX6_readAll_22 : decode cX6_readAll 22 = .ok (.iload_n 2, 1) := by decide +kernel
theorem dX6_readAll_23 : decode cX6_readAll 23 = .ok (.sipush 800, 3) := by decide +kernel
theorem dX6_readAll_26 : decode cX6_readAll 26 = .ok (.if_icmp .ge 45, 3) := by decide +kernel
theorem dX6_readAll_29 : decode cX6_readAll 29 = .ok (.aload_n 0, 1) := by decide +kernel
theorem dX6_readAll_30 : decode cX6_readAll 30 = .ok (.getfield 22, 3) := by decide +kernel
theorem dX6_readAll_33 : decode cX6_readAll 33 = .ok (.aload_n 1, 1) := by decide +kernel
theorem dX6_readAll_34 : decode cX6_readAll 34 = .ok (.getfield 28, 3) := by decide +kernel
theorem dX6_readAll_37 : decode cX6_readAll 37 = .ok (.if_icmp .ge 34, 3) := by decide +kernel
theorem dX6_readAll_40 : decode cX6_readAll 40 = .ok (.aload_n 0, 1) := by decide +kernel
theorem dX6_readAll_41 : decode cX6_readAll 41 = .ok (.getfield 22, 3) := by decide +kernel
theorem dX6_readAll_44 : decode cX6_readAll 44 = .ok (.istore_n 3, 1) := by decide +kernel
theorem dX6_readAll_45 : decode cX6_readAll 45 = .ok (.aload_n 0, 1) := by decide +kernel
theorem dX6_readAll_46 : decode cX6_readAll 46 = .ok (.aload_n 1, 1) := by decide +kernel
theorem dX6_readAll_47 : decode cX6_readAll 47 = .ok (.invokevirtual 31, 3) := by decide +kernel
theorem dX6_readAll_50 : decode cX6_readAll 50 = .ok (.istore 4, 2) := by decide +kernel
theorem dX6_readAll_52 : decode cX6_readAll 52 = .ok (.iload 4, 2) := by decide +kernel
theorem dX6_readAll_54 : decode cX6_readAll 54 = .ok (.ifCond .eq 11, 3) := by decide +kernel
theorem dX6_readAll_57 : decode cX6_readAll 57 = .ok (.aload_n 0, 1) := by decide +kernel
theorem dX6_readAll_58 : decode cX6_readAll 58 = .ok (.iload_n 3, 1) := by decide +kernel
theorem dX6_readAll_59 : decode cX6_readAll 59 = .ok (.putfield 19, 3) := by decide +kernel
theorem dX6_readAll_62 : decode cX6_readAll 62 = .ok (.iload 4, 2) := by decide +kernel
theorem dX6_readAll_64 : decode cX6_readAll 64 = .ok (.ireturn, 1) := by decide +kernel
theorem dX6_readAll_65 : decode cX6_readAll 65 = .ok (.iinc 2 1, 3) := by decide +kernel
theorem dX6_readAll_68 : decode cX6_readAll 68 = .ok (.goto (-46), 3) := by decide +kernel
theorem dX6_readAll_71 : decode cX6_readAll 71 = .ok (.iconst 0, 1) := by decide +kernel
theorem dX6_readAll_72 : decode cX6_readAll 72 = .ok (.ireturn, 1) := by decide +kernel
set_option maxRecDepth 20000 in
theorem ggX6_readToken_X6_takeBit : GoodIn wsX6_readToken wsX6_takeBit := goodIn_r _ [5, 6, 7, 8, 36, 37, 38, 39, 40, 41, 42] (by decide +kernel) (by decide +kernel)
set_option maxRecDepth 20000 in
theorem gX6_readToken_X6_takeBit : GoodIn wsX6_readToken (wsV RX6 35 RX6 yX6_takeBit wsX6_takeBit) := goodIn_app (goodIn_of _ (by decide +kernel)) ggX6_readToken_X6_takeBit
set_option maxRecDepth 20000 in
theorem ggX6_readToken_X6_readLiteral : GoodIn wsX6_readToken wsX6_readLiteral := goodIn_r _ [12, 13, 14, 15, 16, 17, 4, 18, 1, 2, 3, 5, 6, 7, 8, 36, 37, 38, 39, 40, 41, 42] (by decide +kernel) (by decide +kernel)
set_option maxRecDepth 20000 in
theorem gX6_readToken_X6_readLiteral : GoodIn wsX6_readToken (wsV RX6 38 RX6 yX6_readLiteral wsX6_readLiteral) := goodIn_app (goodIn_of _ (by decide +kernel)) ggX6_readToken_X6_readLiteral
set_option maxRecDepth 20000 in
theorem ggX6_readToken_X6_readMatch : GoodIn wsX6_readToken wsX6_readMatch := goodIn_r _ [22, 13, 23, 24, 25, 26, 4, 27, 1, 2, 3, 5, 6, 7, 8, 15, 16, 17, 18, 28, 29, 30, 31, 14, 36, 37, 38, 39, 40, 41, 42] (by decide +kernel) (by decide +kernel)
set_option maxRecDepth 20000 in
theorem gX6_readToken_X6_readMatch : GoodIn wsX6_readToken (wsV RX6 41 RX6 yX6_readMatch wsX6_readMatch) := goodIn_app (goodIn_of _ (by decide +kernel)) ggX6_readToken_X6_readMatch
set_option maxRecDepth 20000 in
theorem ggX6_readToken_X6_readAgain : GoodIn wsX6_readToken wsX6_readAgain := goodIn_r _ [35, 23, 24, 25, 26, 4, 27, 1, 2, 3, 5, 6, 7, 8, 15, 16, 17, 18, 28, 29, 30, 31, 13, 14, 36, 37, 38, 39, 40, 41, 42] (by decide +kernel) (by decide +kernel)
set_option maxRecDepth 20000 in
theorem gX6_readToken_X6_readAgain : GoodIn wsX6_readToken (wsV RX6 44 RX6 yX6_readAgain wsX6_readAgain) := goodIn_app (goodIn_of _ (by decide +kernel)) ggX6_readToken_X6_readAgain
theorem dX6_readToken_0 : decode cX6_readToken 0 = .ok (.aload_n 0, 1) := by decide +kernel
theorem dX6_readToken_1 : decode cX6_readToken 1 = .ok (.aload_n 1, 1) := by decide +kernel
theorem dX6_readToken_2 : decode cX6_readToken 2 = .ok (.invokevirtual 35, 3) := by decide +kernel
theorem dX6_readToken_5 : decode cX6_readToken 5 = .ok (.istore_n 2, 1) := by decide +kernel
theorem dX6_readToken_6 : decode cX6_readToken 6 = .ok (.iload_n 2, 1) := by decide +kernel
theorem dX6_readToken_7 : decode cX6_readToken 7 = .ok (.ifCond .ne 9, 3) := by decide +kernel
theorem dX6_readToken_10 : decode cX6_readToken 10 = .ok (.aload_n 0, 1) := by decide +kernel
theorem dX6_readToken_11 : decode cX6_readToken 11 = .ok (.aload_n 1, 1) := by decide +kernel
theorem dX6_readToken_12 : decode cX6_readToken 12 = .ok (.invokevirtual 38, 3) := by decide +kernel
theorem dX6_readToken_15 : decode cX6_readToken 15 = .ok (.ireturn, 1) := by decide +kernel
theorem dX6_readToken_16 : decode cX6_readToken 16 = .ok (.aload_n 0, 1) := by decide +kernel
theorem dX6_readToken_17 : decode cX6_readToken 17 = .ok (.aload_n 1, 1) := by decide +kernel
theorem dX6_readToken_18 : decode cX6_readToken 18 = .ok (.invokevirtual 35, 3) := by decide +kernel
theorem dX6_readToken_21 : decode cX6_readToken 21 = .ok (.istore_n 3, 1) := by decide +kernel
theorem dX6_readToken_22 : decode cX6_readToken 22 = .ok (.iload_n 3, 1) := by decide +kernel
theorem dX6_readToken_23 : decode cX6_readToken 23 = .ok (.ifCond .ge 5, 3) := by decide +kernel
theorem dX6_readToken_26 : decode cX6_readToken 26 = .ok (.iconst 1, 1) := by decide +kernel
theorem dX6_readToken_27 : decode cX6_readToken 27 = .ok (.ireturn, 1) := by decide +kernel
theorem dX6_readToken_28 : decode cX6_readToken 28 = .ok (.iload_n 3, 1) := by decide +kernel
theorem dX6_readToken_29 : decode cX6_readToken 29 = .ok (.ifCond .ne 11, 3) := by decide +kernel
theorem dX6_readToken_32 : decode cX6_readToken 32 = .ok (.aload_n 0, 1) := by decide +kernel
theorem dX6_readToken_33 : decode cX6_readToken 33 = .ok (.aload_n 1, 1) := by decide +kernel
theorem dX6_readToken_34 : decode cX6_readToken 34 = .ok (.invokevirtual 41, 3) := by decide +kernel
theorem dX6_readToken_37 : decode cX6_readToken 37 = .ok (.goto 8, 3) := by decide +kernel
theorem dX6_readToken_40 : decode cX6_readToken 40 = .ok (.aload_n 0, 1) := by decide +kernel
theorem dX6_readToken_41 : decode cX6_readToken 41 = .ok (.aload_n 1, 1) := by decide +kernel
theorem dX6_readToken_42 : decode cX6_readToken 42 = .ok (.invokevirtual 44, 3) := by decide +kernel
theorem dX6_readToken_45 : decode cX6_readToken 45 = .ok (.ireturn, 1) := by decide +kernel
set_option maxRecDepth 20000 in
theorem ggX6_readLiteral_X6_takeBehind : GoodIn wsX6_readLiteral wsX6_takeBehind := goodIn_r _ [7, 8, 9, 10, 6, 11, 12, 13, 14, 15, 16, 17, 18, 19, 20, 21] (by decide +kernel) (by decide +kernel)
set_option maxRecDepth 20000 in
theorem gX6_readLiteral_X6_takeBehind : GoodIn wsX6_readLiteral (wsV RX6 47 RX6 yX6_takeBehind wsX6_takeBehind) := goodIn_app (goodIn_of _ (by decide +kernel)) ggX6_readLiteral_X6_takeBehind
theorem dX6_readLiteral_0 : decode cX6_readLiteral 0 = .ok (.aload_n 0, 1) := by decide +kernel
theorem dX6_readLiteral_1 : decode cX6_readLiteral 1 = .ok (.aload_n 1, 1) := by decide +kernel
theorem dX6_readLiteral_2 : decode cX6_readLiteral 2 = .ok (.iconst 0, 1) := by decide +kernel
theorem dX6_readLiteral_3 : decode cX6_readLiteral 3 = .ok (.bipush 8, 2) := by decide +kernel
theorem dX6_readLiteral_5 : decode cX6_readLiteral 5 = .ok (.invokevirtual 47, 3) := by decide +kernel
theorem dX6_readLiteral_8 : decode cX6_readLiteral 8 = .ok (.istore_n 2, 1) := by decide +kernel
theorem dX6_readLiteral_9 : decode cX6_readLiteral 9 = .ok (.iload_n 2, 1) := by decide +kernel
theorem dX6_readLiteral_10 : decode cX6_readLiteral 10 = .ok (.ifCond .ge 5, 3) := by decide +kernel
theorem dX6_readLiteral_13 : decode cX6_readLiteral 13 = .ok (.iconst 1, 1) := by decide +kernel
theorem dX6_readLiteral_14 : decode cX6_readLiteral 14 = .ok (.ireturn, 1) := by decide +kernel
theorem dX6_readLiteral_15 : decode cX6_readLiteral 15 = .ok (.aload_n 0, 1) := by decide +kernel
theorem dX6_readLiteral_16 : decode cX6_readLiteral 16 = .ok (.getfield 15, 3) := by decide +kernel
theorem dX6_readLiteral_19 : decode cX6_readLiteral 19 = .ok (.sipush 200, 3) := by decide +kernel
theorem dX6_readLiteral_22 : decode cX6_readLiteral 22 = .ok (.if_icmp .lt 5, 3) := by decide +kernel
theorem dX6_readLiteral_25 : decode cX6_readLiteral 25 = .ok (.iconst 5, 1) := by decide +kernel
theorem dX6_readLiteral_26 : decode cX6_readLiteral 26 = .ok (.ireturn, 1) := by decide +kernel
theorem dX6_readLiteral_27 : decode cX6_readLiteral 27 = .ok (.aload_n 0, 1) := by decide +kernel
theorem dX6_readLiteral_28 : decode cX6_readLiteral 28 = .ok (.getfield 9, 3) := by decide +kernel
theorem dX6_readLiteral_31 : decode cX6_readLiteral 31 = .ok (.aload_n 0, 1) := by decide +kernel
theorem dX6_readLiteral_32 : decode cX6_readLiteral 32 = .ok (.getfield 15, 3) := by decide +kernel
theorem dX6_readLiteral_35 : decode cX6_readLiteral 35 = .ok (.iload_n 2, 1) := by decide +kernel
theorem dX6_readLiteral_36 : decode cX6_readLiteral 36 = .ok (.iastore, 1) := by decide +kernel
theorem dX6_readLiteral_37 : decode cX6_readLiteral 37 = .ok (.aload_n 0, 1) := by decide +kernel
theorem dX6_readLiteral_38 : decode cX6_readLiteral 38 = .ok (.dup, 1) := by decide +kernel
theorem dX6_readLiteral_39 : decode cX6_readLiteral 39 = .ok (.getfield 15, 3) := by decide +kernel
theorem dX6_readLiteral_42 : decode cX6_readLiteral 42 = .ok (.iconst 1, 1) := by decide +kernel
theorem dX6_readLiteral_43 : decode cX6_readLiteral 43 = .ok (.iadd, 1) := by decide +kernel
theorem dX6_readLiteral_44 : decode cX6_readLiteral 44 = .ok (.putfield 15, 3) := by decide +kernel
theorem dX6_readLiteral_47 : decode cX6_readLiteral 47 = .ok (.iconst 0, 1) := by decide +kernel
theorem dX6_readLiteral_48 : decode cX6_readLiteral 48 = .ok (.ireturn, 1) := by decide +kernel
set_option maxRecDepth 20000 in
theorem ggX6_readMatch_X6_takeNumber : GoodIn wsX6_readMatch wsX6_takeNumber := goodIn_r _ [7, 8, 9, 10, 6, 11, 12, 13, 14, 15, 16, 17, 18, 24, 25, 26, 27, 28, 29, 30] (by decide +kernel) (by decide +kernel)
set_option maxRecDepth 20000 in
theorem gX6_readMatch_X6_takeNumber : GoodIn wsX6_readMatch (wsV RX6 51 RX6 yX6_takeNumber wsX6_takeNumber) := goodIn_app (goodIn_of _ (by decide +kernel)) ggX6_readMatch_X6_takeNumber
set_option maxRecDepth 20000 in
theorem ggX6_readMatch_X6_copy : GoodIn wsX6_readMatch wsX6_copy := goodIn_r _ [22, 1, 23, 24, 25, 26, 27, 28] (by decide +kernel) (by decide +kernel)
set_option maxRecDepth 20000 in
theorem gX6_readMatch_X6_copy : GoodIn wsX6_readMatch (wsV RX6 54 RX6 yX6_copy wsX6_copy) := goodIn_app (goodIn_of _ (by decide +kernel)) ggX6_readMatch_X6_copy
theorem dX6_readMatch_0 : decode cX6_readMatch 0 = .ok (.aload_n 0, 1) := by decide +kernel
theorem dX6_readMatch_1 : decode cX6_readMatch 1 = .ok (.aload_n 1, 1) := by decide +kernel
theorem dX6_readMatch_2 : decode cX6_readMatch 2 = .ok (.invokevirtual 51, 3) := by decide +kernel
theorem dX6_readMatch_5 : decode cX6_readMatch 5 = .ok (.istore_n 2, 1) := by decide +kernel
theorem dX6_readMatch_6 : decode cX6_readMatch 6 = .ok (.iload_n 2, 1) := by decide +kernel
theorem dX6_readMatch_7 : decode cX6_readMatch 7 = .ok (.ifCond .ge 6, 3) := by decide +kernel
theorem dX6_readMatch_10 : decode cX6_readMatch 10 = .ok (.iload_n 2, 1) := by decide +kernel
theorem dX6_readMatch_11 : decode cX6_readMatch 11 = .ok (.ineg, 1) := by decide +kernel
theorem dX6_readMatch_12 : decode cX6_readMatch 12 = .ok (.ireturn, 1) := by decide +kernel
theorem dX6_readMatch_13 : decode cX6_readMatch 13 = .ok (.aload_n 0, 1) := by decide +kernel
theorem dX6_readMatch_14 : decode cX6_readMatch 14 = .ok (.aload_n 1, 1) := by decide +kernel
theorem dX6_readMatch_15 : decode cX6_readMatch 15 = .ok (.invokevirtual 51, 3) := by decide +kernel
theorem dX6_readMatch_18 : decode cX6_readMatch 18 = .ok (.istore_n 3, 1) := by decide +kernel
theorem dX6_readMatch_19 : decode cX6_readMatch 19 = .ok (.iload_n 3, 1) := by decide +kernel
theorem dX6_readMatch_20 : decode cX6_readMatch 20 = .ok (.ifCond .ge 6, 3) := by decide +kernel
theorem dX6_readMatch_23 : decode cX6_readMatch 23 = .ok (.iload_n 3, 1) := by decide +kernel
theorem dX6_readMatch_24 : decode cX6_readMatch 24 = .ok (.ineg, 1) := by decide +kernel
theorem dX6_readMatch_25 : decode cX6_readMatch 25 = .ok (.ireturn, 1) := by decide +kernel
theorem dX6_readMatch_26 : decode cX6_readMatch 26 = .ok (.iload_n 2, 1) := by decide +kernel
theorem dX6_readMatch_27 : decode cX6_readMatch 27 = .ok (.aload_n 0, 1) := by decide +kernel
theorem dX6_readMatch_28 : decode cX6_readMatch 28 = .ok (.getfield 15, 3) := by decide +kernel
theorem dX6_readMatch_31 : decode cX6_readMatch 31 = .ok (.if_icmp .le 5, 3) := by decide +kernel
theorem dX6_readMatch_34 : decode cX6_readMatch 34 = .ok (.iconst 3, 1) := by decide +kernel
theorem dX6_readMatch_35 : decode cX6_readMatch 35 = .ok (.ireturn, 1) := by decide +kernel
theorem dX6_readMatch_36 : decode cX6_readMatch 36 = .ok (.aload_n 0, 1) := by decide +kernel
theorem dX6_readMatch_37 : decode cX6_readMatch 37 = .ok (.iload_n 2, 1) := by decide +kernel
theorem dX6_readMatch_38 : decode cX6_readMatch 38 = .ok (.iload_n 3, 1) := by decide +kernel
theorem dX6_readMatch_39 : decode cX6_readMatch 39 = .ok (.iconst 1, 1) := by decide +kernel
theorem dX6_readMatch_40 : decode cX6_readMatch 40 = .ok (.iadd, 1) := by decide +kernel
theorem dX6_readMatch_41 : decode cX6_readMatch 41 = .ok (.invokevirtual 54, 3) := by decide +kernel
theorem dX6_readMatch_44 : decode cX6_readMatch 44 = .ok (.istore 4, 2) := by decide +kernel
theorem dX6_readMatch_46 : decode cX6_readMatch 46 = .ok (.iload 4, 2) := by decide +kernel
theorem dX6_readMatch_48 : decode cX6_readMatch 48 = .ok (.ifCond .ne 8, 3) := by decide +kernel
theorem dX6_readMatch_51 : decode cX6_readMatch 51 = .ok (.aload_n 0, 1) := by decide +kernel
theorem dX6_readMatch_52 : decode cX6_readMatch 52 = .ok (.iload_n 2, 1) := by decide +kernel
theorem dX6_readMatch_53 : decode cX6_readMatch 53 = .ok (.putfield 25, 3) := by decide +kernel
theorem dX6_readMatch_56 : decode cX6_readMatch 56 = .ok (.iload 4, 2) := by decide +kernel
theorem dX6_readMatch_58 : decode cX6_readMatch 58 = .ok (.ireturn, 1) := by decide +kernel
set_option maxRecDepth 20000 in
theorem ggX6_readAgain_X6_takeNumber : GoodIn wsX6_readAgain wsX6_takeNumber := goodIn_r _ [6, 7, 8, 9, 5, 10, 11, 12, 13, 14, 15, 16, 17, 24, 25, 26, 27, 28, 29, 30] (by decide +kernel) (by decide +kernel)
set_option maxRecDepth 20000 in
theorem gX6_readAgain_X6_takeNumber : GoodIn wsX6_readAgain (wsV RX6 51 RX6 yX6_takeNumber wsX6_takeNumber) := goodIn_app (goodIn_of _ (by decide +kernel)) ggX6_readAgain_X6_takeNumber
set_option maxRecDepth 20000 in
theorem ggX6_readAgain_X6_copy : GoodIn wsX6_readAgain wsX6_copy := goodIn_r _ [21, 22, 23, 24, 25, 26, 27, 28] (by decide +kernel) (by decide +kernel)
set_option maxRecDepth 20000 in
theorem gX6_readAgain_X6_copy : GoodIn wsX6_readAgain (wsV RX6 54 RX6 yX6_copy wsX6_copy) := goodIn_app (goodIn_of _ (by decide +kernel)) ggX6_readAgain_X6_copy
theorem dX6_readAgain_0 : decode cX6_readAgain 0 = .ok (.aload_n 0, 1) := by decide +kernel
theorem dX6_readAgain_1 : decode cX6_readAgain 1 = .ok (.aload_n 1, 1) := by decide +kernel
theorem dX6_readAgain_2 : decode cX6_readAgain 2 = .ok (.invokevirtual 51, 3) := by decide +kernel
theorem dX6_readAgain_5 : decode cX6_readAgain 5 = .ok (.istore_n 2, 1) := by decide +kernel
theorem dX6_readAgain_6 : decode cX6_readAgain 6 = .ok (.iload_n 2, 1) := by decide +kernel
theorem dX6_readAgain_7 : decode cX6_readAgain 7 = .ok (.ifCond .ge 6, 3) := by decide +kernel
theorem dX6_readAgain_10 : decode cX6_readAgain 10 = .ok (.iload_n 2, 1) := by decide +kernel
theorem dX6_readAgain_11 : decode cX6_readAgain 11 = .ok (.ineg, 1) := by decide +kernel
theorem dX6_readAgain_12 : decode cX6_readAgain 12 = .ok (.ireturn, 1) := by decide +kernel
theorem dX6_readAgain_13 : decode cX6_readAgain 13 = .ok (.aload_n 0, 1) := by decide +kernel
theorem dX6_readAgain_14 : decode cX6_readAgain 14 = .ok (.getfield 25, 3) := by decide +kernel
theorem dX6_readAgain_17 : decode cX6_readAgain 17 = .ok (.ifCond .ne 7, 3) := by decide +kernel
theorem dX6_readAgain_20 : decode cX6_readAgain 20 = .ok (.iconst 4, 1) := by decide +kernel
theorem dX6_readAgain_21 : decode cX6_readAgain 21 = .ok (.goto 12, 3) := by decide +kernel
theorem dX6_readAgain_24 : decode cX6_readAgain 24 = .ok (.aload_n 0, 1) := by decide +kernel
theorem dX6_readAgain_25 : decode cX6_readAgain 25 = .ok (.aload_n 0, 1) := by decide +kernel
theorem dX6_readAgain_26 : decode cX6_readAgain 26 = .ok (.getfield 25, 3) := by decide +kernel
theorem dX6_readAgain_29 : decode cX6_readAgain 29 = .ok (.iload_n 2, 1) := by decide +kernel
theorem dX6_readAgain_30 : decode cX6_readAgain 30 = .ok (.invokevirtual 54, 3) := by decide +kernel
theorem dX6_readAgain_33 : decode cX6_readAgain 33 = .ok (.ireturn, 1) := by decide +kernel
theorem dX6_copy_0 : decode cX6_copy 0 = .ok (.iload_n 2, 1) := by decide +kernel
theorem dX6_copy_1 : decode cX6_copy 1 = .ok (.sipush 200, 3) := by decide +kernel
theorem dX6_copy_4 : decode cX6_copy 4 = .ok (.aload_n 0, 1) := by decide +kernel
theorem dX6_copy_5 : decode cX6_copy 5 = .ok (.getfield 15, 3) := by decide +kernel
theorem dX6_copy_8 : decode cX6_copy 8 = .ok (.isub, 1) := by decide +kernel
theorem dX6_copy_9 : decode cX6_copy 9 = .ok (.if_icmp .le 5, 3) := by decide +kernel
theorem dX6_copy_12 : decode cX6_copy 12 = .ok (.iconst 5, 1) := by decide +kernel
theorem dX6_copy_13 : decode cX6_copy 13 = .ok (.ireturn, 1) := by decide +kernel
theorem dX6_copy_14 : decode cX6_copy 14 = .ok (.iconst 0, 1) := by decide +kernel
theorem dX6_copy_15 : decode cX6_copy 15 = .ok (.istore_n 3, 1) := by decide +kernel
theorem dX6_copy_16 : decode cX6_copy 16 = .ok (.iload_n 3, 1) := by decide +kernel
theorem dX6_copy_17 : decode cX6_copy 17 = .ok (.iload_n 2, 1) := by decide +kernel
theorem dX6_copy_18 : decode cX6_copy 18 = .ok (.if_icmp .ge 39, 3) := by decide +kernel
theorem dX6_copy_21 : decode cX6_copy 21 = .ok (.aload_n 0, 1) := by decide +kernel
theorem dX6_copy_22 : decode cX6_copy 22 = .ok (.getfield 9, 3) := by decide +kernel
theorem dX6_copy_25 : decode cX6_copy 25 = .ok (.aload_n 0, 1) := by decide +kernel
theorem dX6_copy_26 : decode cX6_copy 26 = .ok (.getfield 15, 3) := by decide +kernel
theorem dX6_copy_29 : decode cX6_copy 29 = .ok (.aload_n 0, 1) := by decide +kernel
theorem dX6_copy_30 : decode cX6_copy 30 = .ok (.getfield 9, 3) := by decide +kernel
theorem dX6_copy_33 : decode cX6_copy 33 = .ok (.aload_n 0, 1) := by decide +kernel
theorem dX6_copy_34 : decode cX6_copy 34 = .ok (.getfield 15, 3) := by decide +kernel
theorem dX6_copy_37 : decode cX6_copy 37 = .ok (.iload_n 1, 1) := by decide +kernel
theorem dX6_copy_38 : decode cX6_copy 38 = .ok (.isub, 1) := by decide +kernel
theorem dX6_copy_39 : decode cX6_copy 39 = .ok (.iaload, 1) := by decide +kernel
theorem dX6_copy_40 : decode cX6_copy 40 = .ok (.iastore, 1) := by decide +kernel
theorem dX6_copy_41 : decode cX6_copy 41 = .ok (.aload_n 0, 1) := by decide +kernel
theorem dX6_copy_42 : decode cX6_copy 42 = .ok (.dup, 1) := by decide +kernel
theorem dX6_copy_43 : decode cX6_copy 43 = .ok (.getfield 15, 3) := by decide +kernel
theorem dX6_copy_46 : decode cX6_copy 46 = .ok (.iconst 1, 1) := by decide +kernel
theorem dX6_copy_47 : decode cX6_copy 47 = .ok (.iadd, 1) := by decide +kernel
theorem dX6_copy_48 : decode cX6_copy 48 = .ok (.putfield 15, 3) := by decide +kernel
theorem dX6_copy_51 : decode cX6_copy 51 = .ok (.iinc 3 1, 3) := by decide +kernel
theorem dX6_copy_54 : decode cX6_copy 54 = .ok (.goto (-38), 3) := by decide +kernel
theorem dX6_copy_57 : decode cX6_copy 57 = .ok (.iconst 0, 1) := by decide +kernel
theorem dX6_copy_58 : decode cX6_copy 58 = .ok (.ireturn, 1) := by decide +kernel
theorem dX6_takeBit_0 : decode cX6_takeBit 0 = .ok (.aload_n 0, 1) := by decide +kernel
theorem dX6_takeBit_1 : decode cX6_takeBit 1 = .ok (.getfield 22, 3) := by decide +kernel
theorem dX6_takeBit_4 : decode cX6_takeBit 4 = .ok (.aload_n 1, 1) := by decide +kernel
theorem dX6_takeBit_5 : decode cX6_takeBit 5 = .ok (.getfield 28, 3) := by decide +kernel
theorem dX6_takeBit_8 : decode cX6_takeBit 8 = .ok (.if_icmp .lt 5, 3) := by decide +kernel
theorem dX6_takeBit_11 : decode cX6_takeBit 11 = .ok (.iconst (-1), 1) := by decide +kernel
theorem dX6_takeBit_12 : decode cX6_takeBit 12 = .ok (.ireturn, 1) := by decide +kernel
theorem dX6_takeBit_13 : decode cX6_takeBit 13 = .ok (.aload_n 0, 1) := by decide +kernel
theorem dX6_takeBit_14 : decode cX6_takeBit 14 = .ok (.dup, 1) := by decide +kernel
theorem dX6_takeBit_15 : decode cX6_takeBit 15 = .ok (.getfield 22, 3) := by decide +kernel
theorem dX6_takeBit_18 : decode cX6_takeBit 18 = .ok (.iconst 1, 1) := by decide +kernel
theorem dX6_takeBit_19 : decode cX6_takeBit 19 = .ok (.iadd, 1) := by decide +kernel
theorem dX6_takeBit_20 : decode cX6_takeBit 20 = .ok (.putfield 22, 3) := by decide +kernel
theorem dX6_takeBit_23 : decode cX6_takeBit 23 = .ok (.aload_n 1, 1) := by decide +kernel
theorem dX6_takeBit_24 : decode cX6_takeBit 24 = .ok (.getfield 58, 3) := by decide +kernel
theorem dX6_takeBit_27 : decode cX6_takeBit 27 = .ok (.aload_n 0, 1) := by decide +kernel
theorem dX6_takeBit_28 : decode cX6_takeBit 28 = .ok (.getfield 22, 3) := by decide +kernel
theorem dX6_takeBit_31 : decode cX6_takeBit 31 = .ok (.iconst 1, 1) := by decide +kernel
theorem dX6_takeBit_32 : decode cX6_takeBit 32 = .ok (.isub, 1) := by decide +kernel
theorem dX6_takeBit_33 : decode cX6_takeBit 33 = .ok (.iaload, 1) := by decide +kernel
theorem dX6_takeBit_34 : decode cX6_takeBit 34 = .ok (.ireturn, 1) := by decide +kernel
set_option maxRecDepth 20000 in
theorem ggX6_takeBehind_X6_takeBit : GoodIn wsX6_takeBehind wsX6_takeBit := goodIn_r _ [5, 6, 7, 8, 9, 10, 11, 12, 13, 14, 15] (by decide +kernel) (by decide +kernel)
set_option maxRecDepth 20000 in
theorem gX6_takeBehind_X6_takeBit : GoodIn wsX6_takeBehind (wsV RX6 35 RX6 yX6_takeBit wsX6_takeBit) := goodIn_app (goodIn_of _ (by decide +kernel)) ggX6_takeBehind_X6_takeBit
theorem dX6_takeBehind_0 : decode cX6_takeBehind 0 = .ok (.iload_n 2, 1) := by decide +kernel
theorem dX6_takeBehind_1 : decode cX6_takeBehind 1 = .ok (.istore 4, 2) := by decide +kernel
theorem dX6_takeBehind_3 : decode cX6_takeBehind 3 = .ok (.iconst 0, 1) := by decide +kernel
theorem dX6_takeBehind_4 : decode cX6_takeBehind 4 = .ok (.istore 5, 2) := by decide +kernel
theorem dX6_takeBehind_6 : decode cX6_takeBehind 6 = .ok (.iload 5, 2) := by decide +kernel
theorem dX6_takeBehind_8 : decode cX6_takeBehind 8 = .ok (.iload_n 3, 1) := by decide +kernel
theorem dX6_takeBehind_9 : decode cX6_takeBehind 9 = .ok (.if_icmp .ge 32, 3) := by decide +kernel
theorem dX6_takeBehind_12 : decode cX6_takeBehind 12 = .ok (.aload_n 0, 1) := by decide +kernel
theorem dX6_takeBehind_13 : decode cX6_takeBehind 13 = .ok (.aload_n 1, 1) := by decide +kernel
theorem dX6_takeBehind_14 : decode cX6_takeBehind 14 = .ok (.invokevirtual 35, 3) := by decide +kernel
theorem dX6_takeBehind_17 : decode cX6_takeBehind 17 = .ok (.istore 6, 2) := by decide +kernel
theorem dX6_takeBehind_19 : decode cX6_takeBehind 19 = .ok (.iload 6, 2) := by decide +kernel
theorem dX6_takeBehind_21 : decode cX6_takeBehind 21 = .ok (.ifCond .ge 5, 3) := by decide +kernel
theorem dX6_takeBehind_24 : decode cX6_takeBehind 24 = .ok (.iconst (-1), 1) := by decide +kernel
theorem dX6_takeBehind_25 : decode cX6_takeBehind 25 = .ok (.ireturn, 1) := by decide +kernel
theorem dX6_takeBehind_26 : decode cX6_takeBehind 26 = .ok (.iconst 2, 1) := by decide +kernel
theorem dX6_takeBehind_27 : decode cX6_takeBehind 27 = .ok (.iload 4, 2) := by decide +kernel
theorem dX6_takeBehind_29 : decode cX6_takeBehind 29 = .ok (.imul, 1) := by decide +kernel
theorem dX6_takeBehind_30 : decode cX6_takeBehind 30 = .ok (.iload 6, 2) := by decide +kernel
theorem dX6_takeBehind_32 : decode cX6_takeBehind 32 = .ok (.iadd, 1) := by decide +kernel
theorem dX6_takeBehind_33 : decode cX6_takeBehind 33 = .ok (.istore 4, 2) := by decide +kernel
theorem dX6_takeBehind_35 : decode cX6_takeBehind 35 = .ok (.iinc 5 1, 3) := by decide +kernel
theorem dX6_takeBehind_38 : decode cX6_takeBehind 38 = .ok (.goto (-32), 3) := by decide +kernel
theorem dX6_takeBehind_41 : decode cX6_takeBehind 41 = .ok (.iload 4, 2) := by decide +kernel
theorem dX6_takeBehind_43 : decode cX6_takeBehind 43 = .ok (.ireturn, 1) := by decide +kernel
set_option maxRecDepth 20000 in
theorem ggX6_takeNumber_X6_takeBit : GoodIn wsX6_takeNumber wsX6_takeBit := goodIn_r _ [5, 6, 7, 8, 13, 14, 15, 16, 17, 18, 19] (by decide +kernel) (by decide +kernel)
set_option maxRecDepth 20000 in
theorem gX6_takeNumber_X6_takeBit : GoodIn wsX6_takeNumber (wsV RX6 35 RX6 yX6_takeBit wsX6_takeBit) := goodIn_app (goodIn_of _ (by decide +kernel)) ggX6_takeNumber_X6_takeBit
set_option maxRecDepth 20000 in
theorem ggX6_takeNumber_X6_takeBehind : GoodIn wsX6_takeNumber wsX6_takeBehind := goodIn_r _ [12, 1, 2, 3, 4, 5, 6, 7, 8, 13, 14, 15, 16, 17, 18, 19] (by decide +kernel) (by decide +kernel)
set_option maxRecDepth 20000 in
theorem gX6_takeNumber_X6_takeBehind : GoodIn wsX6_takeNumber (wsV RX6 47 RX6 yX6_takeBehind wsX6_takeBehind) := goodIn_app (goodIn_of _ (by decide +kernel)) ggX6_takeNumber_X6_takeBehind
theorem dX6_takeNumber_0 : decode cX6_takeNumber 0 = .ok (.iconst 0, 1) := by decide +kernel
theorem dX6_takeNumber_1 : decode cX6_takeNumber 1 = .ok (.istore_n 2, 1) := by decide +kernel
theorem dX6_takeNumber_2 : decode cX6_takeNumber 2 = .ok (.iload_n 2, 1) := by decide +kernel
theorem dX6_takeNumber_3 : decode cX6_takeNumber 3 = .ok (.bipush 7, 2) := by decide +kernel
theorem dX6_takeNumber_5 : decode cX6_takeNumber 5 = .ok (.if_icmp .gt 47, 3) := by decide +kernel
theorem dX6_takeNumber_8 : decode cX6_takeNumber 8 = .ok (.aload_n 0, 1) := by decide +kernel
theorem dX6_takeNumber_9 : decode cX6_takeNumber 9 = .ok (.aload_n 1, 1) := by decide +kernel
theorem dX6_takeNumber_10 : decode cX6_takeNumber 10 = .ok (.invokevirtual 35, 3) := by decide +kernel
theorem dX6_takeNumber_13 : decode cX6_takeNumber 13 = .ok (.istore_n 3, 1) := by decide +kernel
theorem dX6_takeNumber_14 : decode cX6_takeNumber 14 = .ok (.iload_n 3, 1) := by decide +kernel
theorem dX6_takeNumber_15 : decode cX6_takeNumber 15 = .ok (.ifCond .ge 5, 3) := by decide +kernel
theorem dX6_takeNumber_18 : decode cX6_takeNumber 18 = .ok (.iconst (-1), 1) := by decide +kernel
theorem dX6_takeNumber_19 : decode cX6_takeNumber 19 = .ok (.ireturn, 1) := by decide +kernel
theorem dX6_takeNumber_20 : decode cX6_takeNumber 20 = .ok (.iload_n 3, 1) := by decide +kernel
theorem dX6_takeNumber_21 : decode cX6_takeNumber 21 = .ok (.iconst 1, 1) := by decide +kernel
theorem dX6_takeNumber_22 : decode cX6_takeNumber 22 = .ok (.if_icmp .ne 24, 3) := by decide +kernel
theorem dX6_takeNumber_25 : decode cX6_takeNumber 25 = .ok (.aload_n 0, 1) := by decide +kernel
theorem dX6_takeNumber_26 : decode cX6_takeNumber 26 = .ok (.aload_n 1, 1) := by decide +kernel
theorem dX6_takeNumber_27 : decode cX6_takeNumber 27 = .ok (.iconst 1, 1) := by decide +kernel
theorem dX6_takeNumber_28 : decode cX6_takeNumber 28 = .ok (.iload_n 2, 1) := by decide +kernel
theorem dX6_takeNumber_29 : decode cX6_takeNumber 29 = .ok (.invokevirtual 47, 3) := by decide +kernel
theorem dX6_takeNumber_32 : decode cX6_takeNumber 32 = .ok (.istore 4, 2) := by decide +kernel
theorem dX6_takeNumber_34 : decode cX6_takeNumber 34 = .ok (.iload 4, 2) := by decide +kernel
theorem dX6_takeNumber_36 : decode cX6_takeNumber 36 = .ok (.ifCond .ge 7, 3) := by decide +kernel
theorem dX6_takeNumber_39 : decode cX6_takeNumber 39 = .ok (.iconst (-1), 1) := by decide +kernel
theorem dX6_takeNumber_40 : decode cX6_takeNumber 40 = .ok (.goto 5, 3) := by decide +kernel
theorem dX6_takeNumber_43 : decode cX6_takeNumber 43 = .ok (.iload 4, 2) := by decide +kernel
theorem dX6_takeNumber_45 : decode cX6_takeNumber 45 = .ok (.ireturn, 1) := by decide +kernel
theorem dX6_takeNumber_46 : decode cX6_takeNumber 46 = .ok (.iinc 2 1, 3) := by decide +kernel
theorem dX6_takeNumber_49 : decode cX6_takeNumber 49 = .ok (.goto (-47), 3) := by decide +kernel
theorem dX6_takeNumber_52 : decode cX6_takeNumber 52 = .ok (.bipush (-2), 2) := by decide +kernel
theorem dX6_takeNumber_54 : decode cX6_takeNumber 54 = .ok (.ireturn, 1) := by decide +kernel
theorem dX7_init_0 : decode cX7_init 0 = .ok (.aload_n 0, 1) := by decide +kernel
theorem dX7_init_1 : decode cX7_init 1 = .ok (.invokespecial 3, 3) := by decide +kernel
theorem dX7_init_4 : decode cX7_init 4 = .ok (.aload_n 0, 1) := by decide +kernel
theorem dX7_init_5 : decode cX7_init 5 = .ok (.bipush 64, 2) := by decide +kernel
theorem dX7_init_7 : decode cX7_init 7 = .ok (.putfield 9, 3) := by decide +kernel
theorem dX7_init_10 : decode cX7_init 10 = .ok (.aload_n 0, 1) := by decide +kernel
theorem dX7_init_11 : decode cX7_init 11 = .ok (.iconst 3, 1) := by decide +kernel
theorem dX7_init_12 : decode cX7_init 12 = .ok (.putfield 15, 3) := by decide +kernel
theorem dX7_init_15 : decode cX7_init 15 = .ok (.aload_n 0, 1) := by decide +kernel
theorem dX7_init_16 : decode cX7_init 16 = .ok (.bipush 64, 2) := by decide +kernel
theorem dX7_init_18 : decode cX7_init 18 = .ok (.putfield 18, 3) := by decide +kernel
theorem dX7_init_21 : decode cX7_init 21 = .ok (.aload_n 0, 1) := by decide +kernel
theorem dX7_init_22 : decode cX7_init 22 = .ok (.iconst 0, 1) := by decide +kernel
theorem dX7_init_23 : decode cX7_init 23 = .ok (.putfield 21, 3) := by decide +kernel
theorem dX7_init_26 : decode cX7_init 26 = .ok (.return_, 1) := by decide +kernel
theorem dX8_init_0 : decode cX8_init 0 = .ok (.aload_n 0, 1) := by decide +kernel
theorem dX8_init_1 : decode cX8_init 1 = .ok (.invokespecial 3, 3) := by decide +kernel
theorem dX8_init_4 : decode cX8_init 4 = .ok (.aload_n 0, 1) := by decide +kernel
theorem dX8_init_5 : decode cX8_init 5 = .ok (.bipush 64, 2) := by decide +kernel
theorem dX8_init_7 : decode cX8_init 7 = .ok (.newarray .int, 2) := by decide +kernel
theorem dX8_init_9 : decode cX8_init 9 = .ok (.putfield 9, 3) := by decide +kernel
theorem dX8_init_12 : decode cX8_init 12 = .ok (.aload_n 0, 1) := by decide +kernel
theorem dX8_init_13 : decode cX8_init 13 = .ok (.iconst 0, 1) := by decide +kernel
theorem dX8_init_14 : decode cX8_init 14 = .ok (.putfield 15, 3) := by decide +kernel
theorem dX8_init_17 : decode cX8_init 17 = .ok (.return_, 1) := by decide +kernel
theorem dX8_has_0 : decode cX8_has 0 = .ok (.iload_n 1, 1) := by decide +kernel
theorem dX8_has_1 : decode cX8_has 1 = .ok (.ifCond .lt 15, 3) := by decide +kernel
theorem dX8_has_4 : decode cX8_has 4 = .ok (.iload_n 1, 1) := by decide +kernel
theorem dX8_has_5 : decode cX8_has 5 = .ok (.aload_n 0, 1) := by decide +kernel
theorem dX8_has_6 : decode cX8_has 6 = .ok (.getfield 15, 3) := by decide +kernel
theorem dX8_has_9 : decode cX8_has 9 = .ok (.if_icmp .ge 7, 3) := by decide +kernel
theorem dX8_has_12 : decode cX8_has 12 = .ok (.iconst 1, 1) := by decide +kernel
theorem dX8_has_13 : decode cX8_has 13 = .ok (.goto 4, 3) := by decide +kernel
theorem dX8_has_16 : decode cX8_has 16 = .ok (.iconst 0, 1) := by decide +kernel
theorem dX8_has_17 : decode cX8_has 17 = .ok (.ireturn, 1) := by decide +kernel
theorem dX8_push_0 : decode cX8_push 0 = .ok (.aload_n 0, 1) := by decide +kernel
theorem dX8_push_1 : decode cX8_push 1 = .ok (.getfield 15, 3) := by decide +kernel
theorem dX8_push_4 : decode cX8_push 4 = .ok (.bipush 64, 2) := by decide +kernel
theorem dX8_push_6 : decode cX8_push 6 = .ok (.if_icmp .ge 23, 3) := by decide +kernel
theorem dX8_push_9 : decode cX8_push 9 = .ok (.aload_n 0, 1) := by decide +kernel
theorem dX8_push_10 : decode cX8_push 10 = .ok (.getfield 9, 3) := by decide +kernel
theorem dX8_push_13 : decode cX8_push 13 = .ok (.aload_n 0, 1) := by decide +kernel
theorem dX8_push_14 : decode cX8_push 14 = .ok (.getfield 15, 3) := by decide +kernel
theorem dX8_push_17 : decode cX8_push 17 = .ok (.iload_n 1, 1) := by decide +kernel
theorem dX8_push_18 : decode cX8_push 18 = .ok (.iastore, 1) := by decide +kernel
theorem dX8_push_19 : decode cX8_push 19 = .ok (.aload_n 0, 1) := by decide +kernel
theorem dX8_push_20 : decode cX8_push 20 = .ok (.dup, 1) := by decide +kernel
theorem dX8_push_21 : decode cX8_push 21 = .ok (.getfield 15, 3) := by decide +kernel
theorem dX8_push_24 : decode cX8_push 24 = .ok (.iconst 1, 1) := by decide +kernel
theorem dX8_push_25 : decode cX8_push 25 = .ok (.iadd, 1) := by decide +kernel
theorem dX8_push_26 : decode cX8_push 26 = .ok (.putfield 15, 3) := by decide +kernel
theorem dX8_push_29 : decode cX8_push 29 = .ok (.return_, 1) := by decide +kernel
theorem dX8_sameFrom_0 : decode cX8_sameFrom 0 = .ok (.iload_n 2, 1) := by decide +kernel
theorem dX8_sameFrom_1 : decode cX8_sameFrom 1 = .ok (.iconst 1, 1) := by decide +kernel
theorem dX8_sameFrom_2 : decode cX8_sameFrom 2 = .ok (.if_icmp .lt 8, 3) := by decide +kernel
theorem dX8_sameFrom_5 : decode cX8_sameFrom 5 = .ok (.iload_n 2, 1) := by decide +kernel
theorem dX8_sameFrom_6 : decode cX8_sameFrom 6 = .ok (.iload_n 1, 1) := by decide +kernel
theorem dX8_sameFrom_7 : decode cX8_sameFrom 7 = .ok (.if_icmp .le 5, 3) := by decide +kernel
theorem dX8_sameFrom_10 : decode cX8_sameFrom 10 = .ok (.iconst 0, 1) := by decide +kernel
theorem dX8_sameFrom_11 : decode cX8_sameFrom 11 = .ok (.ireturn, 1) := by decide +kernel
theorem dX8_sameFrom_12 : decode cX8_sameFrom 12 = .ok (.iload_n 1, 1) := by decide +kernel
theorem dX8_sameFrom_13 : decode cX8_sameFrom 13 = .ok (.istore_n 3, 1) := by decide +kernel
theorem dX8_sameFrom_14 : decode cX8_sameFrom 14 = .ok (.iload_n 3, 1) := by decide +kernel
theorem dX8_sameFrom_15 : decode cX8_sameFrom 15 = .ok (.aload_n 0, 1) := by decide +kernel
theorem dX8_sameFrom_16 : decode cX8_sameFrom 16 = .ok (.getfield 15, 3) := by decide +kernel
theorem dX8_sameFrom_19 : decode cX8_sameFrom 19 = .ok (.if_icmp .ge 26, 3) := by decide +kernel
theorem dX8_sameFrom_22 : decode cX8_sameFrom 22 = .ok (.aload_n 0, 1) := by decide +kernel
theorem dX8_sameFrom_23 : decode cX8_sameFrom 23 = .ok (.getfield 9, 3) := by decide +kernel
theorem dX8_sameFrom_26 : decode cX8_sameFrom 26 = .ok (.iload_n 3, 1) := by decide +kernel
theorem dX8_sameFrom_27 : decode cX8_sameFrom 27 = .ok (.iaload, 1) := by decide +kernel
theorem dX8_sameFrom_28 : decode cX8_sameFrom 28 = .ok (.aload_n 0, 1) := by decide +kernel
theorem dX8_sameFrom_29 : decode cX8_sameFrom 29 = .ok (.getfield 9, 3) := by decide +kernel
theorem dX8_sameFrom_32 : decode cX8_sameFrom 32 = .ok (.iload_n 3, 1) := by decide +kernel
theorem dX8_sameFrom_33 : decode cX8_sameFrom 33 = .ok (.iload_n 2, 1) := by decide +kernel
theorem dX8_sameFrom_34 : decode cX8_sameFrom 34 = .ok (.isub, 1) := by decide +kernel
theorem dX8_sameFrom_35 : decode cX8_sameFrom 35 = .ok (.iaload, 1) := by decide +kernel
theorem dX8_sameFrom_36 : decode cX8_sameFrom 36 = .ok (.if_icmp .ne 9, 3) := by decide +kernel
theorem dX8_sameFrom_39 : decode cX8_sameFrom 39 = .ok (.iinc 3 1, 3) := by decide +kernel
theorem dX8_sameFrom_42 : decode cX8_sameFrom 42 = .ok (.goto (-28), 3) := by decide +kernel
theorem dX8_sameFrom_45 : decode cX8_sameFrom 45 = .ok (.iload_n 3, 1) := by decide +kernel
theorem dX8_sameFrom_46 : decode cX8_sameFrom 46 = .ok (.iload_n 1, 1) := by decide +kernel
theorem dX8_sameFrom_47 : decode cX8_sameFrom 47 = .ok (.isub, 1) := by decide +kernel
theorem dX8_sameFrom_48 : decode cX8_sameFrom 48 = .ok (.ireturn, 1) := by decide +kernel
