theorem dX10_init_0 : decode cX10_init 0 = .ok (.aload_n 0, 1) := by decide +kernel
theorem dX10_init_1 : decode cX10_init 1 = .ok (.invokespecial 1, 3) := by decide +kernel
theorem dX10_init_4 : decode cX10_init 4 = .ok (.aload_n 0, 1) := by decide +kernel
theorem dX10_init_5 : decode cX10_init 5 = .ok (.bipush 64, 2) := by decide +kernel
theorem dX10_init_7 : decode cX10_init 7 = .ok (.newarray .int, 2) := by decide +kernel
theorem dX10_init_9 : decode cX10_init 9 = .ok (.putfield 9, 3) := by decide +kernel
theorem dX10_init_12 : decode cX10_init 12 = .ok (.aload_n 0, 1) := by decide +kernel
theorem dX10_init_13 : decode cX10_init 13 = .ok (.bipush 64, 2) := by decide +kernel
theorem dX10_init_15 : decode cX10_init 15 = .ok (.putfield 13, 3) := by decide +kernel
theorem dX10_init_18 : decode cX10_init 18 = .ok (.aload_n 0, 1) := by decide +kernel
theorem dX10_init_19 : decode cX10_init 19 = .ok (.iconst 3, 1) := by decide +kernel
theorem dX10_init_20 : decode cX10_init 20 = .ok (.putfield 17, 3) := by decide +kernel
theorem dX10_init_23 : decode cX10_init 23 = .ok (.aload_n 0, 1) := by decide +kernel
theorem dX10_init_24 : decode cX10_init 24 = .ok (.bipush 64, 2) := by decide +kernel
theorem dX10_init_26 : decode cX10_init 26 = .ok (.putfield 20, 3) := by decide +kernel
theorem dX10_init_29 : decode cX10_init 29 = .ok (.aload_n 0, 1) := by decide +kernel
theorem dX10_init_30 : decode cX10_init 30 = .ok (.bipush 64, 2) := by decide +kernel
theorem dX10_init_32 : decode cX10_init 32 = .ok (.newarray .int, 2) := by decide +kernel
theorem dX10_init_34 : decode cX10_init 34 = .ok (.putfield 23, 3) := by decide +kernel
theorem dX10_init_37 : decode cX10_init 37 = .ok (.aload_n 0, 1) := by decide +kernel
theorem dX10_init_38 : decode cX10_init 38 = .ok (.bipush 64, 2) := by decide +kernel
theorem dX10_init_40 : decode cX10_init 40 = .ok (.newarray .int, 2) := by decide +kernel
theorem dX10_init_42 : decode cX10_init 42 = .ok (.putfield 26, 3) := by decide +kernel
theorem dX10_init_45 : decode cX10_init 45 = .ok (.aload_n 0, 1) := by decide +kernel
theorem dX10_init_46 : decode cX10_init 46 = .ok (.bipush 64, 2) := by decide +kernel
theorem dX10_init_48 : decode cX10_init 48 = .ok (.newarray .int, 2) := by decide +kernel
theorem dX10_init_50 : decode cX10_init 50 = .ok (.putfield 29, 3) := by decide +kernel
theorem dX10_init_53 : decode cX10_init 53 = .ok (.aload_n 0, 1) := by decide +kernel
theorem dX10_init_54 : decode cX10_init 54 = .ok (.bipush 64, 2) := by decide +kernel
theorem dX10_init_56 : decode cX10_init 56 = .ok (.newarray .int, 2) := by decide +kernel
theorem dX10_init_58 : decode cX10_init 58 = .ok (.putfield 32, 3) := by decide +kernel
theorem dX10_init_61 : decode cX10_init 61 = .ok (.aload_n 0, 1) := by decide +kernel
theorem dX10_init_62 : decode cX10_init 62 = .ok (.sipush 800, 3) := by decide +kernel
theorem dX10_init_65 : decode cX10_init 65 = .ok (.newarray .int, 2) := by decide +kernel
theorem dX10_init_67 : decode cX10_init 67 = .ok (.putfield 35, 3) := by decide +kernel
theorem dX10_init_70 : decode cX10_init 70 = .ok (.aload_n 0, 1) := by decide +kernel
theorem dX10_init_71 : decode cX10_init 71 = .ok (.sipush 200, 3) := by decide +kernel
theorem dX10_init_74 : decode cX10_init 74 = .ok (.newarray .int, 2) := by decide +kernel
theorem dX10_init_76 : decode cX10_init 76 = .ok (.putfield 38, 3) := by decide +kernel
theorem dX10_init_79 : decode cX10_init 79 = .ok (.aload_n 0, 1) := by decide +kernel
theorem dX10_init_80 : decode cX10_init 80 = .ok (.iconst (-1), 1) := by decide +kernel
theorem dX10_init_81 : decode cX10_init 81 = .ok (.putfield 41, 3) := by decide +kernel
theorem dX10_init_84 : decode cX10_init 84 = .ok (.aload_n 0, 1) := by decide +kernel
theorem dX10_init_85 : decode cX10_init 85 = .ok (.sipush 4225, 3) := by decide +kernel
theorem dX10_init_88 : decode cX10_init 88 = .ok (.newarray .int, 2) := by decide +kernel
theorem dX10_init_90 : decode cX10_init 90 = .ok (.putfield 44, 3) := by decide +kernel
theorem dX10_init_93 : decode cX10_init 93 = .ok (.aload_n 0, 1) := by decide +kernel
theorem dX10_init_94 : decode cX10_init 94 = .ok (.sipush 4225, 3) := by decide +kernel
theorem dX10_init_97 : decode cX10_init 97 = .ok (.newarray .int, 2) := by decide +kernel
theorem dX10_init_99 : decode cX10_init 99 = .ok (.putfield 47, 3) := by decide +kernel
theorem dX10_init_102 : decode cX10_init 102 = .ok (.aload_n 0, 1) := by decide +kernel
theorem dX10_init_103 : decode cX10_init 103 = .ok (.sipush 4225, 3) := by decide +kernel
theorem dX10_init_106 : decode cX10_init 106 = .ok (.newarray .int, 2) := by decide +kernel
theorem dX10_init_108 : decode cX10_init 108 = .ok (.putfield 50, 3) := by decide +kernel
theorem dX10_init_111 : decode cX10_init 111 = .ok (.aload_n 0, 1) := by decide +kernel
theorem dX10_init_112 : decode cX10_init 112 = .ok (.sipush 4225, 3) := by decide +kernel
theorem dX10_init_115 : decode cX10_init 115 = .ok (.newarray .int, 2) := by decide +kernel
theorem dX10_init_117 : decode cX10_init 117 = .ok (.putfield 53, 3) := by decide +kernel
theorem dX10_init_120 : decode cX10_init 120 = .ok (.aload_n 0, 1) := by decide +kernel
theorem dX10_init_121 : decode cX10_init 121 = .ok (.sipush 4225, 3) := by decide +kernel
theorem dX10_init_124 : decode cX10_init 124 = .ok (.newarray .int, 2) := by decide +kernel
theorem dX10_init_126 : decode cX10_init 126 = .ok (.putfield 56, 3) := by decide +kernel
theorem dX10_init_129 : decode cX10_init 129 = .ok (.aload_n 0, 1) := by decide +kernel
theorem dX10_init_130 : decode cX10_init 130 = .ok (.bipush 65, 2) := by decide +kernel
theorem dX10_init_132 : decode cX10_init 132 = .ok (.newarray .int, 2) := by decide +kernel
theorem dX10_init_134 : decode cX10_init 134 = .ok (.putfield 59, 3) := by decide +kernel
theorem dX10_init_137 : decode cX10_init 137 = .ok (.aload_n 0, 1) := by decide +kernel
theorem dX10_init_138 : decode cX10_init 138 = .ok (.bipush 64, 2) := by decide +kernel
theorem dX10_init_140 : decode cX10_init 140 = .ok (.newarray .int, 2) := by decide +kernel
theorem dX10_init_142 : decode cX10_init 142 = .ok (.putfield 62, 3) := by decide +kernel
theorem dX10_init_145 : decode cX10_init 145 = .ok (.return_, 1) := by decide +kernel
theorem dX10_thrown_0 : decode cX10_thrown 0 = .ok (.aload_n 0, 1) := by decide +kernel
theorem dX10_thrown_1 : decode cX10_thrown 1 = .ok (.getfield 65, 3) := by decide +kernel
theorem dX10_thrown_4 : decode cX10_thrown 4 = .ok (.ireturn, 1) := by decide +kernel
theorem dX10_no_0 : decode cX10_no 0 = .ok (.aload_n 0, 1) := by decide +kernel
theorem dX10_no_1 : decode cX10_no 1 = .ok (.iload_n 1, 1) := by decide +kernel
theorem dX10_no_2 : decode cX10_no 2 = .ok (.putfield 65, 3) := by decide +kernel
theorem dX10_no_5 : decode cX10_no 5 = .ok (.iconst 0, 1) := by decide +kernel
theorem dX10_no_6 : decode cX10_no 6 = .ok (.ireturn, 1) := by decide +kernel
theorem dX10_isIn_0 : decode cX10_isIn 0 = .ok (.iload_n 0, 1) := by decide +kernel
theorem dX10_isIn_1 : decode cX10_isIn 1 = .ok (.iload_n 1, 1) := by decide +kernel
theorem dX10_isIn_2 : decode cX10_isIn 2 = .ok (.if_icmp .lt 12, 3) := by decide +kernel
theorem dX10_isIn_5 : decode cX10_isIn 5 = .ok (.iload_n 0, 1) := by decide +kernel
theorem dX10_isIn_6 : decode cX10_isIn 6 = .ok (.iload_n 2, 1) := by decide +kernel
theorem dX10_isIn_7 : decode cX10_isIn 7 = .ok (.if_icmp .gt 7, 3) := by decide +kernel
theorem dX10_isIn_10 : decode cX10_isIn 10 = .ok (.iconst 1, 1) := by decide +kernel
theorem dX10_isIn_11 : decode cX10_isIn 11 = .ok (.goto 4, 3) := by decide +kernel
theorem dX10_isIn_14 : decode cX10_isIn 14 = .ok (.iconst 0, 1) := by decide +kernel
theorem dX10_isIn_15 : decode cX10_isIn 15 = .ok (.ireturn, 1) := by decide +kernel
set_option maxRecDepth 20000 in
theorem ggX10_isPlace_X10_isIn : GoodIn wsX10_isPlace wsX10_isIn := goodIn_r _ [5] (by decide +kernel) (by decide +kernel)
set_option maxRecDepth 20000 in
theorem gX10_isPlace_X10_isIn : GoodIn wsX10_isPlace (va_wsS RX10 71 yX10_isIn wsX10_isIn) := goodIn_app (goodIn_of _ (by decide +kernel)) ggX10_isPlace_X10_isIn
theorem dX10_isPlace_0 : decode cX10_isPlace 0 = .ok (.iload_n 1, 1) := by decide +kernel
theorem dX10_isPlace_1 : decode cX10_isPlace 1 = .ok (.iconst 0, 1) := by decide +kernel
theorem dX10_isPlace_2 : decode cX10_isPlace 2 = .ok (.aload_n 0, 1) := by decide +kernel
theorem dX10_isPlace_3 : decode cX10_isPlace 3 = .ok (.getfield 68, 3) := by decide +kernel
theorem dX10_isPlace_6 : decode cX10_isPlace 6 = .ok (.iconst 1, 1) := by decide +kernel
theorem dX10_isPlace_7 : decode cX10_isPlace 7 = .ok (.isub, 1) := by decide +kernel
theorem dX10_isPlace_8 : decode cX10_isPlace 8 = .ok (.invokestatic 71, 3) := by decide +kernel
theorem dX10_isPlace_11 : decode cX10_isPlace 11 = .ok (.ireturn, 1) := by decide +kernel
set_option maxRecDepth 20000 in
theorem ggX10_feed_X10_isIn : GoodIn wsX10_feed wsX10_isIn := goodIn_r _ [9] (by decide +kernel) (by decide +kernel)
set_option maxRecDepth 20000 in
theorem gX10_feed_X10_isIn : GoodIn wsX10_feed (va_wsS RX10 71 yX10_isIn wsX10_isIn) := goodIn_app (goodIn_of _ (by decide +kernel)) ggX10_feed_X10_isIn
set_option maxRecDepth 20000 in
theorem ggX10_feed_X10_no : GoodIn wsX10_feed wsX10_no := goodIn_r _ [13, 1, 14, 15, 16, 17, 18, 19, 20, 21, 22, 23, 24, 25, 26, 27, 28, 29, 30, 31, 32, 33, 34, 35, 36, 37, 38, 39, 40] (by decide +kernel) (by decide +kernel)
set_option maxRecDepth 20000 in
theorem gX10_feed_X10_no : GoodIn wsX10_feed (wsV RX10 75 RX10 yX10_no wsX10_no) := goodIn_app (goodIn_of _ (by decide +kernel)) ggX10_feed_X10_no
theorem dX10_feed_0 : decode cX10_feed 0 = .ok (.aload_n 0, 1) := by decide +kernel
theorem dX10_feed_1 : decode cX10_feed 1 = .ok (.iconst 0, 1) := by decide +kernel
theorem dX10_feed_2 : decode cX10_feed 2 = .ok (.putfield 65, 3) := by decide +kernel
theorem dX10_feed_5 : decode cX10_feed 5 = .ok (.iload_n 3, 1) := by decide +kernel
theorem dX10_feed_6 : decode cX10_feed 6 = .ok (.iconst 1, 1) := by decide +kernel
theorem dX10_feed_7 : decode cX10_feed 7 = .ok (.bipush 8, 2) := by decide +kernel
theorem dX10_feed_9 : decode cX10_feed 9 = .ok (.invokestatic 71, 3) := by decide +kernel
theorem dX10_feed_12 : decode cX10_feed 12 = .ok (.ifCond .ne 9, 3) := by decide +kernel
theorem dX10_feed_15 : decode cX10_feed 15 = .ok (.aload_n 0, 1) := by decide +kernel
theorem dX10_feed_16 : decode cX10_feed 16 = .ok (.iconst 1, 1) := by decide +kernel
theorem dX10_feed_17 : decode cX10_feed 17 = .ok (.invokevirtual 75, 3) := by decide +kernel
theorem dX10_feed_20 : decode cX10_feed 20 = .ok (.ireturn, 1) := by decide +kernel
theorem dX10_feed_21 : decode cX10_feed 21 = .ok (.aload_n 0, 1) := by decide +kernel
theorem dX10_feed_22 : decode cX10_feed 22 = .ok (.getfield 68, 3) := by decide +kernel
theorem dX10_feed_25 : decode cX10_feed 25 = .ok (.iload_n 3, 1) := by decide +kernel
theorem dX10_feed_26 : decode cX10_feed 26 = .ok (.iadd, 1) := by decide +kernel
theorem dX10_feed_27 : decode cX10_feed 27 = .ok (.bipush 64, 2) := by decide +kernel
theorem dX10_feed_29 : decode cX10_feed 29 = .ok (.if_icmp .le 9, 3) := by decide +kernel
theorem dX10_feed_32 : decode cX10_feed 32 = .ok (.aload_n 0, 1) := by decide +kernel
theorem dX10_feed_33 : decode cX10_feed 33 = .ok (.iconst 2, 1) := by decide +kernel
theorem dX10_feed_34 : decode cX10_feed 34 = .ok (.invokevirtual 75, 3) := by decide +kernel
theorem dX10_feed_37 : decode cX10_feed 37 = .ok (.ireturn, 1) := by decide +kernel
theorem dX10_feed_38 : decode cX10_feed 38 = .ok (.iload_n 3, 1) := by decide +kernel
theorem dX10_feed_39 : decode cX10_feed 39 = .ok (.iconst 1, 1) := by decide +kernel
theorem dX10_feed_40 : decode cX10_feed 40 = .ok (.isub, 1) := by decide +kernel
theorem dX10_feed_41 : decode cX10_feed 41 = .ok (.istore 4, 2) := by decide +kernel
theorem dX10_feed_43 : decode cX10_feed 43 = .ok (.iload 4, 2) := by decide +kernel
theorem dX10_feed_45 : decode cX10_feed 45 = .ok (.ifCond .lt 40, 3) := by decide +kernel
theorem dX10_feed_48 : decode cX10_feed 48 = .ok (.aload_n 0, 1) := by decide +kernel
theorem dX10_feed_49 : decode cX10_feed 49 = .ok (.getfield 9, 3) := by decide +kernel
theorem dX10_feed_52 : decode cX10_feed 52 = .ok (.aload_n 0, 1) := by decide +kernel
theorem dX10_feed_53 : decode cX10_feed 53 = .ok (.getfield 68, 3) := by decide +kernel
theorem dX10_feed_56 : decode cX10_feed 56 = .ok (.lload_n 1, 1) := by decide +kernel
theorem dX10_feed_57 : decode cX10_feed 57 = .ok (.bipush 8, 2) := by decide +kernel
theorem dX10_feed_59 : decode cX10_feed 59 = .ok (.iload 4, 2) := by decide +kernel
theorem dX10_feed_61 : decode cX10_feed 61 = .ok (.imul, 1) := by decide +kernel
theorem dX10_feed_62 : decode cX10_feed 62 = .ok (.lshr, 1) := by decide +kernel
theorem dX10_feed_63 : decode cX10_feed 63 = .ok (.ldc2_w 79, 3) := by decide +kernel
theorem dX10_feed_66 : decode cX10_feed 66 = .ok (.land, 1) := by decide +kernel
theorem dX10_feed_67 : decode cX10_feed 67 = .ok (.l2i, 1) := by decide +kernel
theorem dX10_feed_68 : decode cX10_feed 68 = .ok (.iastore, 1) := by decide +kernel
theorem dX10_feed_69 : decode cX10_feed 69 = .ok (.aload_n 0, 1) := by decide +kernel
theorem dX10_feed_70 : decode cX10_feed 70 = .ok (.dup, 1) := by decide +kernel
theorem dX10_feed_71 : decode cX10_feed 71 = .ok (.getfield 68, 3) := by decide +kernel
theorem dX10_feed_74 : decode cX10_feed 74 = .ok (.iconst 1, 1) := by decide +kernel
theorem dX10_feed_75 : decode cX10_feed 75 = .ok (.iadd, 1) := by decide +kernel
theorem dX10_feed_76 : decode cX10_feed 76 = .ok (.putfield 68, 3) := by decide +kernel
theorem dX10_feed_79 : decode cX10_feed 79 = .ok (.iinc 4 (-1), 3) := by decide +kernel
theorem dX10_feed_82 : decode cX10_feed 82 = .ok (.goto (-39), 3) := by decide +kernel
theorem dX10_feed_85 : decode cX10_feed 85 = .ok (.aload_n 0, 1) := by decide +kernel
theorem dX10_feed_86 : decode cX10_feed 86 = .ok (.iconst 0, 1) := by decide +kernel
theorem dX10_feed_87 : decode cX10_feed 87 = .ok (.putfield 81, 3) := by decide +kernel
theorem dX10_feed_90 : decode cX10_feed 90 = .ok (.aload_n 0, 1) := by decide +kernel
theorem dX10_feed_91 : decode cX10_feed 91 = .ok (.getfield 68, 3) := by decide +kernel
theorem dX10_feed_94 : decode cX10_feed 94 = .ok (.ireturn, 1) := by decide +kernel
set_option maxRecDepth 20000 in
theorem ggX10_fill_X10_isIn : GoodIn wsX10_fill wsX10_isIn := goodIn_r _ [8] (by decide +kernel) (by decide +kernel)
set_option maxRecDepth 20000 in
theorem gX10_fill_X10_isIn : GoodIn wsX10_fill (va_wsS RX10 71 yX10_isIn wsX10_isIn) := goodIn_app (goodIn_of _ (by decide +kernel)) ggX10_fill_X10_isIn
set_option maxRecDepth 20000 in
theorem ggX10_fill_X10_no : GoodIn wsX10_fill wsX10_no := goodIn_r _ [12, 1, 13, 14, 15, 16, 17, 18, 19, 20, 21, 22, 23, 24, 25, 26, 27, 28, 29, 30, 31, 32, 33, 34, 35, 36, 37, 38, 39] (by decide +kernel) (by decide +kernel)
set_option maxRecDepth 20000 in
theorem gX10_fill_X10_no : GoodIn wsX10_fill (wsV RX10 75 RX10 yX10_no wsX10_no) := goodIn_app (goodIn_of _ (by decide +kernel)) ggX10_fill_X10_no
theorem dX10_fill_0 : decode cX10_fill 0 = .ok (.aload_n 0, 1) := by decide +kernel
theorem dX10_fill_1 : decode cX10_fill 1 = .ok (.iconst 0, 1) := by decide +kernel
theorem dX10_fill_2 : decode cX10_fill 2 = .ok (.putfield 65, 3) := by decide +kernel
theorem dX10_fill_5 : decode cX10_fill 5 = .ok (.iload_n 1, 1) := by decide +kernel
theorem dX10_fill_6 : decode cX10_fill 6 = .ok (.iconst 0, 1) := by decide +kernel
theorem dX10_fill_7 : decode cX10_fill 7 = .ok (.sipush 255, 3) := by decide +kernel
theorem dX10_fill_10 : decode cX10_fill 10 = .ok (.invokestatic 71, 3) := by decide +kernel
theorem dX10_fill_13 : decode cX10_fill 13 = .ok (.ifCond .eq 13, 3) := by decide +kernel
theorem dX10_fill_16 : decode cX10_fill 16 = .ok (.iload_n 2, 1) := by decide +kernel
theorem dX10_fill_17 : decode cX10_fill 17 = .ok (.iconst 1, 1) := by decide +kernel
theorem dX10_fill_18 : decode cX10_fill 18 = .ok (.bipush 64, 2) := by decide +kernel
theorem dX10_fill_20 : decode cX10_fill 20 = .ok (.invokestatic 71, 3) := by decide +kernel
theorem dX10_fill_23 : decode cX10_fill 23 = .ok (.ifCond .ne 9, 3) := by decide +kernel
theorem dX10_fill_26 : decode cX10_fill 26 = .ok (.aload_n 0, 1) := by decide +kernel
theorem dX10_fill_27 : decode cX10_fill 27 = .ok (.iconst 1, 1) := by decide +kernel
theorem dX10_fill_28 : decode cX10_fill 28 = .ok (.invokevirtual 75, 3) := by decide +kernel
theorem dX10_fill_31 : decode cX10_fill 31 = .ok (.ireturn, 1) := by decide +kernel
theorem dX10_fill_32 : decode cX10_fill 32 = .ok (.aload_n 0, 1) := by decide +kernel
theorem dX10_fill_33 : decode cX10_fill 33 = .ok (.getfield 68, 3) := by decide +kernel
theorem dX10_fill_36 : decode cX10_fill 36 = .ok (.iload_n 2, 1) := by decide +kernel
theorem dX10_fill_37 : decode cX10_fill 37 = .ok (.iadd, 1) := by decide +kernel
theorem dX10_fill_38 : decode cX10_fill 38 = .ok (.bipush 64, 2) := by decide +kernel
theorem dX10_fill_40 : decode cX10_fill 40 = .ok (.if_icmp .le 9, 3) := by decide +kernel
theorem dX10_fill_43 : decode cX10_fill 43 = .ok (.aload_n 0, 1) := by decide +kernel
theorem dX10_fill_44 : decode cX10_fill 44 = .ok (.iconst 2, 1) := by decide +kernel
theorem dX10_fill_45 : decode cX10_fill 45 = .ok (.invokevirtual 75, 3) := by decide +kernel
theorem dX10_fill_48 : decode cX10_fill 48 = .ok (.ireturn, 1) := by decide +kernel
theorem dX10_fill_49 : decode cX10_fill 49 = .ok (.iconst 0, 1) := by decide +kernel
theorem dX10_fill_50 : decode cX10_fill 50 = .ok (.istore_n 3, 1) := by decide +kernel
theorem dX10_fill_51 : decode cX10_fill 51 = .ok (.iload_n 3, 1) := by decide +kernel
theorem dX10_fill_52 : decode cX10_fill 52 = .ok (.iload_n 2, 1) := by decide +kernel
theorem dX10_fill_53 : decode cX10_fill 53 = .ok (.if_icmp .ge 21, 3) := by decide +kernel
theorem dX10_fill_56 : decode cX10_fill 56 = .ok (.aload_n 0, 1) := by decide +kernel
theorem dX10_fill_57 : decode cX10_fill 57 = .ok (.getfield 9, 3) := by decide +kernel
theorem dX10_fill_60 : decode cX10_fill 60 = .ok (.aload_n 0, 1) := by decide +kernel
theorem dX10_fill_61 : decode cX10_fill 61 = .ok (.getfield 68, 3) := by decide +kernel
theorem dX10_fill_64 : decode cX10_fill 64 = .ok (.iload_n 3, 1) := by decide +kernel
theorem dX10_fill_65 : decode cX10_fill 65 = .ok (.iadd, 1) := by decide +kernel
theorem dX10_fill_66 : decode cX10_fill 66 = .ok (.iload_n 1, 1) := by decide +kernel
theorem dX10_fill_67 : decode cX10_fill 67 = .ok (.iastore, 1) := by decide +kernel
theorem dX10_fill_68 : decode cX10_fill 68 = .ok (.iinc 3 1, 3) := by decide +kernel
theorem dX10_fill_71 : decode cX10_fill 71 = .ok (.goto (-20), 3) := by decide +kernel
theorem dX10_fill_74 : decode cX10_fill 74 = .ok (.aload_n 0, 1) := by decide +kernel
theorem dX10_fill_75 : decode cX10_fill 75 = .ok (.dup, 1) := by decide +kernel
theorem dX10_fill_76 : decode cX10_fill 76 = .ok (.getfield 68, 3) := by decide +kernel
theorem dX10_fill_79 : decode cX10_fill 79 = .ok (.iload_n 2, 1) := by decide +kernel
theorem dX10_fill_80 : decode cX10_fill 80 = .ok (.iadd, 1) := by decide +kernel
theorem dX10_fill_81 : decode cX10_fill 81 = .ok (.putfield 68, 3) := by decide +kernel
theorem dX10_fill_84 : decode cX10_fill 84 = .ok (.aload_n 0, 1) := by decide +kernel
theorem dX10_fill_85 : decode cX10_fill 85 = .ok (.iconst 0, 1) := by decide +kernel
theorem dX10_fill_86 : decode cX10_fill 86 = .ok (.putfield 81, 3) := by decide +kernel
theorem dX10_fill_89 : decode cX10_fill 89 = .ok (.aload_n 0, 1) := by decide +kernel
theorem dX10_fill_90 : decode cX10_fill 90 = .ok (.getfield 68, 3) := by decide +kernel
theorem dX10_fill_93 : decode cX10_fill 93 = .ok (.ireturn, 1) := by decide +kernel
set_option maxRecDepth 20000 in
theorem ggX10_cut_X10_isIn : GoodIn wsX10_cut wsX10_isIn := goodIn_r _ [7] (by decide +kernel) (by decide +kernel)
set_option maxRecDepth 20000 in
theorem gX10_cut_X10_isIn : GoodIn wsX10_cut (va_wsS RX10 71 yX10_isIn wsX10_isIn) := goodIn_app (goodIn_of _ (by decide +kernel)) ggX10_cut_X10_isIn
set_option maxRecDepth 20000 in
theorem ggX10_cut_X10_no : GoodIn wsX10_cut wsX10_no := goodIn_r _ [11, 1, 12, 13, 14, 15, 16, 17, 18, 19, 20, 21, 22, 23, 24, 25, 26, 27, 28, 29, 30, 31, 32, 33, 34, 35, 36, 37, 38] (by decide +kernel) (by decide +kernel)
set_option maxRecDepth 20000 in
theorem gX10_cut_X10_no : GoodIn wsX10_cut (wsV RX10 75 RX10 yX10_no wsX10_no) := goodIn_app (goodIn_of _ (by decide +kernel)) ggX10_cut_X10_no
theorem dX10_cut_0 : decode cX10_cut 0 = .ok (.aload_n 0, 1) := by decide +kernel
theorem dX10_cut_1 : decode cX10_cut 1 = .ok (.iconst 0, 1) := by decide +kernel
theorem dX10_cut_2 : decode cX10_cut 2 = .ok (.putfield 65, 3) := by decide +kernel
theorem dX10_cut_5 : decode cX10_cut 5 = .ok (.iload_n 1, 1) := by decide +kernel
theorem dX10_cut_6 : decode cX10_cut 6 = .ok (.iconst 0, 1) := by decide +kernel
theorem dX10_cut_7 : decode cX10_cut 7 = .ok (.aload_n 0, 1) := by decide +kernel
theorem dX10_cut_8 : decode cX10_cut 8 = .ok (.getfield 68, 3) := by decide +kernel
theorem dX10_cut_11 : decode cX10_cut 11 = .ok (.invokestatic 71, 3) := by decide +kernel
theorem dX10_cut_14 : decode cX10_cut 14 = .ok (.ifCond .ne 9, 3) := by decide +kernel
theorem dX10_cut_17 : decode cX10_cut 17 = .ok (.aload_n 0, 1) := by decide +kernel
theorem dX10_cut_18 : decode cX10_cut 18 = .ok (.iconst 1, 1) := by decide +kernel
theorem dX10_cut_19 : decode cX10_cut 19 = .ok (.invokevirtual 75, 3) := by decide +kernel
theorem dX10_cut_22 : decode cX10_cut 22 = .ok (.ireturn, 1) := by decide +kernel
theorem dX10_cut_23 : decode cX10_cut 23 = .ok (.aload_n 0, 1) := by decide +kernel
theorem dX10_cut_24 : decode cX10_cut 24 = .ok (.dup, 1) := by decide +kernel
theorem dX10_cut_25 : decode cX10_cut 25 = .ok (.getfield 68, 3) := by decide +kernel
theorem dX10_cut_28 : decode cX10_cut 28 = .ok (.iload_n 1, 1) := by decide +kernel
theorem dX10_cut_29 : decode cX10_cut 29 = .ok (.isub, 1) := by decide +kernel
theorem dX10_cut_30 : decode cX10_cut 30 = .ok (.putfield 68, 3) := by decide +kernel
theorem dX10_cut_33 : decode cX10_cut 33 = .ok (.aload_n 0, 1) := by decide +kernel
theorem dX10_cut_34 : decode cX10_cut 34 = .ok (.iconst 0, 1) := by decide +kernel
theorem dX10_cut_35 : decode cX10_cut 35 = .ok (.putfield 81, 3) := by decide +kernel
theorem dX10_cut_38 : decode cX10_cut 38 = .ok (.aload_n 0, 1) := by decide +kernel
theorem dX10_cut_39 : decode cX10_cut 39 = .ok (.getfield 68, 3) := by decide +kernel
theorem dX10_cut_42 : decode cX10_cut 42 = .ok (.ireturn, 1) := by decide +kernel
set_option maxRecDepth 20000 in
theorem ggX10_set_X10_isPlace : GoodIn wsX10_set wsX10_isPlace := goodIn_r _ [8, 9, 10, 11, 7, 12, 17, 18, 19, 20, 21, 22, 23, 24, 25, 26, 27, 28, 29, 30, 31, 32, 33, 34, 35, 36, 37, 38, 39, 40, 41, 42, 43] (by decide +kernel) (by decide +kernel)
set_option maxRecDepth 20000 in
theorem gX10_set_X10_isPlace : GoodIn wsX10_set (wsV RX10 85 RX10 yX10_isPlace wsX10_isPlace) := goodIn_app (goodIn_of _ (by decide +kernel)) ggX10_set_X10_isPlace
set_option maxRecDepth 20000 in
theorem ggX10_set_X10_no : GoodIn wsX10_set wsX10_no := goodIn_r _ [16, 1, 17, 18, 19, 20, 21, 22, 23, 24, 25, 26, 27, 28, 29, 30, 31, 32, 33, 34, 35, 36, 37, 38, 39, 40, 41, 42, 43] (by decide +kernel) (by decide +kernel)
set_option maxRecDepth 20000 in
theorem gX10_set_X10_no : GoodIn wsX10_set (wsV RX10 75 RX10 yX10_no wsX10_no) := goodIn_app (goodIn_of _ (by decide +kernel)) ggX10_set_X10_no
set_option maxRecDepth 20000 in
theorem ggX10_set_X10_isIn : GoodIn wsX10_set wsX10_isIn := goodIn_r _ [12] (by decide +kernel) (by decide +kernel)
set_option maxRecDepth 20000 in
theorem gX10_set_X10_isIn : GoodIn wsX10_set (va_wsS RX10 71 yX10_isIn wsX10_isIn) := goodIn_app (goodIn_of _ (by decide +kernel)) ggX10_set_X10_isIn
theorem dX10_set_0 : decode cX10_set 0 = .ok (.aload_n 0, 1) := by decide +kernel
theorem dX10_set_1 : decode cX10_set 1 = .ok (.iconst 0, 1) := by decide +kernel
theorem dX10_set_2 : decode cX10_set 2 = .ok (.putfield 65, 3) := by decide +kernel
theorem dX10_set_5 : decode cX10_set 5 = .ok (.aload_n 0, 1) := by decide +kernel
theorem dX10_set_6 : decode cX10_set 6 = .ok (.iload_n 1, 1) := by decide +kernel
theorem dX10_set_7 : decode cX10_set 7 = .ok (.invokevirtual 85, 3) := by decide +kernel
theorem dX10_set_10 : decode cX10_set 10 = .ok (.ifCond .ne 9, 3) := by decide +kernel
theorem dX10_set_13 : decode cX10_set 13 = .ok (.aload_n 0, 1) := by decide +kernel
theorem dX10_set_14 : decode cX10_set 14 = .ok (.iconst 1, 1) := by decide +kernel
theorem dX10_set_15 : decode cX10_set 15 = .ok (.invokevirtual 75, 3) := by decide +kernel
theorem dX10_set_18 : decode cX10_set 18 = .ok (.ireturn, 1) := by decide +kernel
theorem dX10_set_19 : decode cX10_set 19 = .ok (.iload_n 2, 1) := by decide +kernel
theorem dX10_set_20 : decode cX10_set 20 = .ok (.iconst 0, 1) := by decide +kernel
theorem dX10_set_21 : decode cX10_set 21 = .ok (.sipush 255, 3) := by decide +kernel
theorem dX10_set_24 : decode cX10_set 24 = .ok (.invokestatic 71, 3) := by decide +kernel
theorem dX10_set_27 : decode cX10_set 27 = .ok (.ifCond .ne 9, 3) := by decide +kernel
theorem dX10_set_30 : decode cX10_set 30 = .ok (.aload_n 0, 1) := by decide +kernel
theorem dX10_set_31 : decode cX10_set 31 = .ok (.iconst 2, 1) := by decide +kernel
theorem dX10_set_32 : decode cX10_set 32 = .ok (.invokevirtual 75, 3) := by decide +kernel
theorem dX10_set_35 : decode cX10_set 35 = .ok (.ireturn, 1) := by decide +kernel
theorem dX10_set_36 : decode cX10_set 36 = .ok (.aload_n 0, 1) := by decide +kernel
theorem dX10_set_37 : decode cX10_set 37 = .ok (.getfield 9, 3) := by decide +kernel
theorem dX10_set_40 : decode cX10_set 40 = .ok (.iload_n 1, 1) := by decide +kernel
theorem dX10_set_41 : decode cX10_set 41 = .ok (.iaload, 1) := by decide +kernel
theorem dX10_set_42 : decode cX10_set 42 = .ok (.istore_n 3, 1) := by decide +kernel
theorem dX10_set_43 : decode cX10_set 43 = .ok (.aload_n 0, 1) := by decide +kernel
theorem dX10_set_44 : decode cX10_set 44 = .ok (.getfield 9, 3) := by decide +kernel
theorem dX10_set_47 : decode cX10_set 47 = .ok (.iload_n 1, 1) := by decide +kernel
theorem dX10_set_48 : decode cX10_set 48 = .ok (.iload_n 2, 1) := by decide +kernel
theorem dX10_set_49 : decode cX10_set 49 = .ok (.iastore, 1) := by decide +kernel
theorem dX10_set_50 : decode cX10_set 50 = .ok (.aload_n 0, 1) := by decide +kernel
theorem dX10_set_51 : decode cX10_set 51 = .ok (.iconst 0, 1) := by decide +kernel
theorem dX10_set_52 : decode cX10_set 52 = .ok (.putfield 81, 3) := by decide +kernel
theorem dX10_set_55 : decode cX10_set 55 = .ok (.iload_n 3, 1) := by decide +kernel
theorem dX10_set_56 : decode cX10_set 56 = .ok (.ireturn, 1) := by decide +kernel
theorem dX10_size_0 : decode cX10_size 0 = .ok (.aload_n 0, 1) := by decide +kernel
theorem dX10_size_1 : decode cX10_size 1 = .ok (.iconst 0, 1) := by decide +kernel
theorem dX10_size_2 : decode cX10_size 2 = .ok (.putfield 65, 3) := by decide +kernel
theorem dX10_size_5 : decode cX10_size 5 = .ok (.aload_n 0, 1) := by decide +kernel
theorem dX10_size_6 : decode cX10_size 6 = .ok (.getfield 68, 3) := by decide +kernel
theorem dX10_size_9 : decode cX10_size 9 = .ok (.ireturn, 1) := by decide +kernel
set_option maxRecDepth 20000 in
theorem ggX10_byteAt_X10_isPlace : GoodIn wsX10_byteAt wsX10_isPlace := goodIn_r _ [7, 8, 9, 10, 6, 11, 16, 17, 18, 19, 20, 21, 22, 23, 24, 25, 26, 27, 28, 29, 30, 31, 32, 33, 34, 35, 36, 37, 38, 39, 40, 41, 42] (by decide +kernel) (by decide +kernel)
set_option maxRecDepth 20000 in
theorem gX10_byteAt_X10_isPlace : GoodIn wsX10_byteAt (wsV RX10 85 RX10 yX10_isPlace wsX10_isPlace) := goodIn_app (goodIn_of _ (by decide +kernel)) ggX10_byteAt_X10_isPlace
set_option maxRecDepth 20000 in
theorem ggX10_byteAt_X10_no : GoodIn wsX10_byteAt wsX10_no := goodIn_r _ [15, 1, 16, 17, 18, 19, 20, 21, 22, 23, 24, 25, 26, 27, 28, 29, 30, 31, 32, 33, 34, 35, 36, 37, 38, 39, 40, 41, 42] (by decide +kernel) (by decide +kernel)
set_option maxRecDepth 20000 in
theorem gX10_byteAt_X10_no : GoodIn wsX10_byteAt (wsV RX10 75 RX10 yX10_no wsX10_no) := goodIn_app (goodIn_of _ (by decide +kernel)) ggX10_byteAt_X10_no
theorem dX10_byteAt_0 : decode cX10_byteAt 0 = .ok (.aload_n 0, 1) := by decide +kernel
theorem dX10_byteAt_1 : decode cX10_byteAt 1 = .ok (.iconst 0, 1) := by decide +kernel
theorem dX10_byteAt_2 : decode cX10_byteAt 2 = .ok (.putfield 65, 3) := by decide +kernel
theorem dX10_byteAt_5 : decode cX10_byteAt 5 = .ok (.aload_n 0, 1) := by decide +kernel
theorem dX10_byteAt_6 : decode cX10_byteAt 6 = .ok (.iload_n 1, 1) := by decide +kernel
theorem dX10_byteAt_7 : decode cX10_byteAt 7 = .ok (.invokevirtual 85, 3) := by decide +kernel
theorem dX10_byteAt_10 : decode cX10_byteAt 10 = .ok (.ifCond .eq 12, 3) := by decide +kernel
theorem dX10_byteAt_13 : decode cX10_byteAt 13 = .ok (.aload_n 0, 1) := by decide +kernel
theorem dX10_byteAt_14 : decode cX10_byteAt 14 = .ok (.getfield 9, 3) := by decide +kernel
theorem dX10_byteAt_17 : decode cX10_byteAt 17 = .ok (.iload_n 1, 1) := by decide +kernel
theorem dX10_byteAt_18 : decode cX10_byteAt 18 = .ok (.iaload, 1) := by decide +kernel
theorem dX10_byteAt_19 : decode cX10_byteAt 19 = .ok (.goto 8, 3) := by decide +kernel
theorem dX10_byteAt_22 : decode cX10_byteAt 22 = .ok (.aload_n 0, 1) := by decide +kernel
theorem dX10_byteAt_23 : decode cX10_byteAt 23 = .ok (.iconst 1, 1) := by decide +kernel
theorem dX10_byteAt_24 : decode cX10_byteAt 24 = .ok (.invokevirtual 75, 3) := by decide +kernel
theorem dX10_byteAt_27 : decode cX10_byteAt 27 = .ok (.ireturn, 1) := by decide +kernel
set_option maxRecDepth 20000 in
theorem ggX10_setWindow_X10_isIn : GoodIn wsX10_setWindow wsX10_isIn := goodIn_r _ [7] (by decide +kernel) (by decide +kernel)
set_option maxRecDepth 20000 in
theorem gX10_setWindow_X10_isIn : GoodIn wsX10_setWindow (va_wsS RX10 71 yX10_isIn wsX10_isIn) := goodIn_app (goodIn_of _ (by decide +kernel)) ggX10_setWindow_X10_isIn
set_option maxRecDepth 20000 in
theorem ggX10_setWindow_X10_no : GoodIn wsX10_setWindow wsX10_no := goodIn_r _ [11, 1, 12, 13, 14, 15, 16, 17, 18, 19, 20, 21, 22, 23, 24, 25, 26, 27, 28, 29, 30, 31, 32, 33, 34, 35, 36, 37, 38] (by decide +kernel) (by decide +kernel)
set_option maxRecDepth 20000 in
theorem gX10_setWindow_X10_no : GoodIn wsX10_setWindow (wsV RX10 75 RX10 yX10_no wsX10_no) := goodIn_app (goodIn_of _ (by decide +kernel)) ggX10_setWindow_X10_no
theorem dX10_setWindow_0 : decode cX10_setWindow 0 = .ok (.aload_n 0, 1) := by decide +kernel
theorem dX10_setWindow_1 : decode cX10_setWindow 1 = .ok (.iconst 0, 1) := by decide +kernel
theorem dX10_setWindow_2 : decode cX10_setWindow 2 = .ok (.putfield 65, 3) := by decide +kernel
theorem dX10_setWindow_5 : decode cX10_setWindow 5 = .ok (.iload_n 1, 1) := by decide +kernel
theorem dX10_setWindow_6 : decode cX10_setWindow 6 = .ok (.iconst 1, 1) := by decide +kernel
theorem dX10_setWindow_7 : decode cX10_setWindow 7 = .ok (.bipush 64, 2) := by decide +kernel
theorem dX10_setWindow_9 : decode cX10_setWindow 9 = .ok (.invokestatic 71, 3) := by decide +kernel
theorem dX10_setWindow_12 : decode cX10_setWindow 12 = .ok (.ifCond .ne 9, 3) := by decide +kernel
theorem dX10_setWindow_15 : decode cX10_setWindow 15 = .ok (.aload_n 0, 1) := by decide +kernel
theorem dX10_setWindow_16 : decode cX10_setWindow 16 = .ok (.iconst 1, 1) := by decide +kernel
theorem dX10_setWindow_17 : decode cX10_setWindow 17 = .ok (.invokevirtual 75, 3) := by decide +kernel
theorem dX10_setWindow_20 : decode cX10_setWindow 20 = .ok (.ireturn, 1) := by decide +kernel
theorem dX10_setWindow_21 : decode cX10_setWindow 21 = .ok (.aload_n 0, 1) := by decide +kernel
theorem dX10_setWindow_22 : decode cX10_setWindow 22 = .ok (.getfield 13, 3) := by decide +kernel
theorem dX10_setWindow_25 : decode cX10_setWindow 25 = .ok (.istore_n 2, 1) := by decide +kernel
theorem dX10_setWindow_26 : decode cX10_setWindow 26 = .ok (.aload_n 0, 1) := by decide +kernel
theorem dX10_setWindow_27 : decode cX10_setWindow 27 = .ok (.iload_n 1, 1) := by decide +kernel
theorem dX10_setWindow_28 : decode cX10_setWindow 28 = .ok (.putfield 13, 3) := by decide +kernel
theorem dX10_setWindow_31 : decode cX10_setWindow 31 = .ok (.aload_n 0, 1) := by decide +kernel
theorem dX10_setWindow_32 : decode cX10_setWindow 32 = .ok (.iconst 0, 1) := by decide +kernel
theorem dX10_setWindow_33 : decode cX10_setWindow 33 = .ok (.putfield 81, 3) := by decide +kernel
theorem dX10_setWindow_36 : decode cX10_setWindow 36 = .ok (.iload_n 2, 1) := by decide +kernel
theorem dX10_setWindow_37 : decode cX10_setWindow 37 = .ok (.ireturn, 1) := by decide +kernel
set_option maxRecDepth 20000 in
theorem ggX10_setLengths_X10_isIn : GoodIn wsX10_setLengths wsX10_isIn := goodIn_r _ [8] (by decide +kernel) (by decide +kernel)
set_option maxRecDepth 20000 in
theorem gX10_setLengths_X10_isIn : GoodIn wsX10_setLengths (va_wsS RX10 71 yX10_isIn wsX10_isIn) := goodIn_app (goodIn_of _ (by decide +kernel)) ggX10_setLengths_X10_isIn
theorem dX10_setLengths_0 : decode cX10_setLengths 0 = .ok (.aload_n 0, 1) := by decide +kernel
theorem dX10_setLengths_1 : decode cX10_setLengths 1 = .ok (.iload_n 1, 1) := by decide +kernel
theorem dX10_setLengths_2 : decode cX10_setLengths 2 = .ok (.iconst 2, 1) := by decide +kernel
theorem dX10_setLengths_3 : decode cX10_setLengths 3 = .ok (.bipush 6, 2) := by decide +kernel
theorem dX10_setLengths_5 : decode cX10_setLengths 5 = .ok (.invokestatic 71, 3) := by decide +kernel
theorem dX10_setLengths_8 : decode cX10_setLengths 8 = .ok (.ifCond .eq 22, 3) := by decide +kernel
theorem dX10_setLengths_11 : decode cX10_setLengths 11 = .ok (.iload_n 2, 1) := by decide +kernel
theorem dX10_setLengths_12 : decode cX10_setLengths 12 = .ok (.iconst 2, 1) := by decide +kernel
theorem dX10_setLengths_13 : decode cX10_setLengths 13 = .ok (.bipush 64, 2) := by decide +kernel
theorem dX10_setLengths_15 : decode cX10_setLengths 15 = .ok (.invokestatic 71, 3) := by decide +kernel
theorem dX10_setLengths_18 : decode cX10_setLengths 18 = .ok (.ifCond .eq 12, 3) := by decide +kernel
theorem dX10_setLengths_21 : decode cX10_setLengths 21 = .ok (.iload_n 1, 1) := by decide +kernel
theorem dX10_setLengths_22 : decode cX10_setLengths 22 = .ok (.iload_n 2, 1) := by decide +kernel
theorem dX10_setLengths_23 : decode cX10_setLengths 23 = .ok (.if_icmp .gt 7, 3) := by decide +kernel
theorem dX10_setLengths_26 : decode cX10_setLengths 26 = .ok (.iconst 0, 1) := by decide +kernel
theorem dX10_setLengths_27 : decode cX10_setLengths 27 = .ok (.goto 4, 3) := by decide +kernel
theorem dX10_setLengths_30 : decode cX10_setLengths 30 = .ok (.iconst 1, 1) := by decide +kernel
theorem dX10_setLengths_31 : decode cX10_setLengths 31 = .ok (.putfield 65, 3) := by decide +kernel
theorem dX10_setLengths_34 : decode cX10_setLengths 34 = .ok (.aload_n 0, 1) := by decide +kernel
theorem dX10_setLengths_35 : decode cX10_setLengths 35 = .ok (.getfield 65, 3) := by decide +kernel
theorem dX10_setLengths_38 : decode cX10_setLengths 38 = .ok (.ifCond .eq 5, 3) := by decide +kernel
theorem dX10_setLengths_41 : decode cX10_setLengths 41 = .ok (.iconst 0, 1) := by decide +kernel
theorem dX10_setLengths_42 : decode cX10_setLengths 42 = .ok (.ireturn, 1) := by decide +kernel
theorem dX10_setLengths_43 : decode cX10_setLengths 43 = .ok (.aload_n 0, 1) := by decide +kernel
theorem dX10_setLengths_44 : decode cX10_setLengths 44 = .ok (.getfield 17, 3) := by decide +kernel
theorem dX10_setLengths_47 : decode cX10_setLengths 47 = .ok (.iload_n 1, 1) := by decide +kernel
theorem dX10_setLengths_48 : decode cX10_setLengths 48 = .ok (.if_icmp .ne 11, 3) := by decide +kernel
theorem dX10_setLengths_51 : decode cX10_setLengths 51 = .ok (.aload_n 0, 1) := by decide +kernel
theorem dX10_setLengths_52 : decode cX10_setLengths 52 = .ok (.getfield 20, 3) := by decide +kernel
theorem dX10_setLengths_55 : decode cX10_setLengths 55 = .ok (.iload_n 2, 1) := by decide +kernel
theorem dX10_setLengths_56 : decode cX10_setLengths 56 = .ok (.if_icmp .eq 7, 3) := by decide +kernel
theorem dX10_setLengths_59 : decode cX10_setLengths 59 = .ok (.iconst 1, 1) := by decide +kernel
theorem dX10_setLengths_60 : decode cX10_setLengths 60 = .ok (.goto 4, 3) := by decide +kernel
theorem dX10_setLengths_63 : decode cX10_setLengths 63 = .ok (.iconst 0, 1) := by decide +kernel
theorem dX10_setLengths_64 : decode cX10_setLengths 64 = .ok (.istore_n 3, 1) := by decide +kernel
theorem dX10_setLengths_65 : decode cX10_setLengths 65 = .ok (.aload_n 0, 1) := by decide +kernel
theorem dX10_setLengths_66 : decode cX10_setLengths 66 = .ok (.iload_n 1, 1) := by decide +kernel
theorem dX10_setLengths_67 : decode cX10_setLengths 67 = .ok (.putfield 17, 3) := by decide +kernel
theorem dX10_setLengths_70 : decode cX10_setLengths 70 = .ok (.aload_n 0, 1) := by decide +kernel
theorem dX10_setLengths_71 : decode cX10_setLengths 71 = .ok (.iload_n 2, 1) := by decide +kernel
theorem dX10_setLengths_72 : decode cX10_setLengths 72 = .ok (.putfield 20, 3) := by decide +kernel
theorem dX10_setLengths_75 : decode cX10_setLengths 75 = .ok (.aload_n 0, 1) := by decide +kernel
theorem dX10_setLengths_76 : decode cX10_setLengths 76 = .ok (.iconst 0, 1) := by decide +kernel
theorem dX10_setLengths_77 : decode cX10_setLengths 77 = .ok (.putfield 81, 3) := by decide +kernel
theorem dX10_setLengths_80 : decode cX10_setLengths 80 = .ok (.iload_n 3, 1) := by decide +kernel
theorem dX10_setLengths_81 : decode cX10_setLengths 81 = .ok (.ireturn, 1) := by decide +kernel
set_option maxRecDepth 20000 in
theorem ggX10_setPrice_X10_isIn : GoodIn wsX10_setPrice wsX10_isIn := goodIn_r _ [7] (by decide +kernel) (by decide +kernel)
set_option maxRecDepth 20000 in
theorem gX10_setPrice_X10_isIn : GoodIn wsX10_setPrice (va_wsS RX10 71 yX10_isIn wsX10_isIn) := goodIn_app (goodIn_of _ (by decide +kernel)) ggX10_setPrice_X10_isIn
set_option maxRecDepth 20000 in
theorem ggX10_setPrice_X10_no : GoodIn wsX10_setPrice wsX10_no := goodIn_r _ [11, 1, 12, 13, 14, 15, 16, 17, 18, 19, 20, 21, 22, 23, 24, 25, 26, 27, 28, 29, 30, 31, 32, 33, 34, 35, 36, 37, 38] (by decide +kernel) (by decide +kernel)
set_option maxRecDepth 20000 in
theorem gX10_setPrice_X10_no : GoodIn wsX10_setPrice (wsV RX10 75 RX10 yX10_no wsX10_no) := goodIn_app (goodIn_of _ (by decide +kernel)) ggX10_setPrice_X10_no
theorem dX10_setPrice_0 : decode cX10_setPrice 0 = .ok (.aload_n 0, 1) := by decide +kernel
theorem dX10_setPrice_1 : decode cX10_setPrice 1 = .ok (.iconst 0, 1) := by decide +kernel
theorem dX10_setPrice_2 : decode cX10_setPrice 2 = .ok (.putfield 65, 3) := by decide +kernel
theorem dX10_setPrice_5 : decode cX10_setPrice 5 = .ok (.iload_n 1, 1) := by decide +kernel
theorem dX10_setPrice_6 : decode cX10_setPrice 6 = .ok (.iconst 0, 1) := by decide +kernel
theorem dX10_setPrice_7 : decode cX10_setPrice 7 = .ok (.bipush 30, 2) := by decide +kernel
theorem dX10_setPrice_9 : decode cX10_setPrice 9 = .ok (.invokestatic 71, 3) := by decide +kernel
theorem dX10_setPrice_12 : decode cX10_setPrice 12 = .ok (.ifCond .ne 9, 3) := by decide +kernel
theorem dX10_setPrice_15 : decode cX10_setPrice 15 = .ok (.aload_n 0, 1) := by decide +kernel
theorem dX10_setPrice_16 : decode cX10_setPrice 16 = .ok (.iconst 1, 1) := by decide +kernel
theorem dX10_setPrice_17 : decode cX10_setPrice 17 = .ok (.invokevirtual 75, 3) := by decide +kernel
theorem dX10_setPrice_20 : decode cX10_setPrice 20 = .ok (.ireturn, 1) := by decide +kernel
theorem dX10_setPrice_21 : decode cX10_setPrice 21 = .ok (.aload_n 0, 1) := by decide +kernel
theorem dX10_setPrice_22 : decode cX10_setPrice 22 = .ok (.getfield 89, 3) := by decide +kernel
theorem dX10_setPrice_25 : decode cX10_setPrice 25 = .ok (.istore_n 2, 1) := by decide +kernel
theorem dX10_setPrice_26 : decode cX10_setPrice 26 = .ok (.aload_n 0, 1) := by decide +kernel
theorem dX10_setPrice_27 : decode cX10_setPrice 27 = .ok (.iload_n 1, 1) := by decide +kernel
theorem dX10_setPrice_28 : decode cX10_setPrice 28 = .ok (.putfield 89, 3) := by decide +kernel
theorem dX10_setPrice_31 : decode cX10_setPrice 31 = .ok (.aload_n 0, 1) := by decide +kernel
theorem dX10_setPrice_32 : decode cX10_setPrice 32 = .ok (.iconst 0, 1) := by decide +kernel
theorem dX10_setPrice_33 : decode cX10_setPrice 33 = .ok (.putfield 81, 3) := by decide +kernel
theorem dX10_setPrice_36 : decode cX10_setPrice 36 = .ok (.iload_n 2, 1) := by decide +kernel
theorem dX10_setPrice_37 : decode cX10_setPrice 37 = .ok (.ireturn, 1) := by decide +kernel
theorem dX10_goesOn_0 : decode cX10_goesOn 0 = .ok (.iconst 0, 1) := by decide +kernel
theorem dX10_goesOn_1 : decode cX10_goesOn 1 = .ok (.istore_n 3, 1) := by decide +kernel
theorem dX10_goesOn_2 : decode cX10_goesOn 2 = .ok (.iload_n 1, 1) := by decide +kernel
theorem dX10_goesOn_3 : decode cX10_goesOn 3 = .ok (.iload_n 3, 1) := by decide +kernel
theorem dX10_goesOn_4 : decode cX10_goesOn 4 = .ok (.iadd, 1) := by decide +kernel
theorem dX10_goesOn_5 : decode cX10_goesOn 5 = .ok (.aload_n 0, 1) := by decide +kernel
theorem dX10_goesOn_6 : decode cX10_goesOn 6 = .ok (.getfield 68, 3) := by decide +kernel
theorem dX10_goesOn_9 : decode cX10_goesOn 9 = .ok (.if_icmp .ge 30, 3) := by decide +kernel
theorem dX10_goesOn_12 : decode cX10_goesOn 12 = .ok (.aload_n 0, 1) := by decide +kernel
theorem dX10_goesOn_13 : decode cX10_goesOn 13 = .ok (.getfield 9, 3) := by decide +kernel
theorem dX10_goesOn_16 : decode cX10_goesOn 16 = .ok (.iload_n 1, 1) := by decide +kernel
theorem dX10_goesOn_17 : decode cX10_goesOn 17 = .ok (.iload_n 3, 1) := by decide +kernel
theorem dX10_goesOn_18 : decode cX10_goesOn 18 = .ok (.iadd, 1) := by decide +kernel
theorem dX10_goesOn_19 : decode cX10_goesOn 19 = .ok (.iaload, 1) := by decide +kernel
theorem dX10_goesOn_20 : decode cX10_goesOn 20 = .ok (.aload_n 0, 1) := by decide +kernel
theorem dX10_goesOn_21 : decode cX10_goesOn 21 = .ok (.getfield 9, 3) := by decide +kernel
theorem dX10_goesOn_24 : decode cX10_goesOn 24 = .ok (.iload_n 1, 1) := by decide +kernel
theorem dX10_goesOn_25 : decode cX10_goesOn 25 = .ok (.iload_n 3, 1) := by decide +kernel
theorem dX10_goesOn_26 : decode cX10_goesOn 26 = .ok (.iadd, 1) := by decide +kernel
theorem dX10_goesOn_27 : decode cX10_goesOn 27 = .ok (.iload_n 2, 1) := by decide +kernel
theorem dX10_goesOn_28 : decode cX10_goesOn 28 = .ok (.isub, 1) := by decide +kernel
theorem dX10_goesOn_29 : decode cX10_goesOn 29 = .ok (.iaload, 1) := by decide +kernel
theorem dX10_goesOn_30 : decode cX10_goesOn 30 = .ok (.if_icmp .ne 9, 3) := by decide +kernel
theorem dX10_goesOn_33 : decode cX10_goesOn 33 = .ok (.iinc 3 1, 3) := by decide +kernel
theorem dX10_goesOn_36 : decode cX10_goesOn 36 = .ok (.goto (-34), 3) := by decide +kernel
theorem dX10_goesOn_39 : decode cX10_goesOn 39 = .ok (.iload_n 3, 1) := by decide +kernel
theorem dX10_goesOn_40 : decode cX10_goesOn 40 = .ok (.ireturn, 1) := by decide +kernel
set_option maxRecDepth 20000 in
theorem ggX10_matchWith_X10_goesOn : GoodIn wsX10_matchWith wsX10_goesOn := goodIn_r _ [11, 12, 13, 14, 15, 16, 17, 18, 19, 20, 21, 22, 23, 24, 25, 26, 27, 28, 29, 30, 31, 32, 33, 34, 35, 36, 37, 38, 39, 40] (by decide +kernel) (by decide +kernel)
set_option maxRecDepth 20000 in
theorem gX10_matchWith_X10_goesOn : GoodIn wsX10_matchWith (wsV RX10 92 RX10 yX10_goesOn wsX10_goesOn) := goodIn_app (goodIn_of _ (by decide +kernel)) ggX10_matchWith_X10_goesOn
theorem dX10_matchWith_0 : decode cX10_matchWith 0 = .ok (.aload_n 0, 1) := by decide +kernel
theorem dX10_matchWith_1 : decode cX10_matchWith 1 = .ok (.iload_n 1, 1) := by decide +kernel
theorem dX10_matchWith_2 : decode cX10_matchWith 2 = .ok (.iload_n 2, 1) := by decide +kernel
theorem dX10_matchWith_3 : decode cX10_matchWith 3 = .ok (.invokevirtual 92, 3) := by decide +kernel
theorem dX10_matchWith_6 : decode cX10_matchWith 6 = .ok (.aload_n 0, 1) := by decide +kernel
theorem dX10_matchWith_7 : decode cX10_matchWith 7 = .ok (.getfield 20, 3) := by decide +kernel
theorem dX10_matchWith_10 : decode cX10_matchWith 10 = .ok (.invokestatic 96, 3) := by decide +kernel
theorem dX10_matchWith_13 : decode cX10_matchWith 13 = .ok (.istore_n 3, 1) := by decide +kernel
theorem dX10_matchWith_14 : decode cX10_matchWith 14 = .ok (.iload_n 3, 1) := by decide +kernel
theorem dX10_matchWith_15 : decode cX10_matchWith 15 = .ok (.aload_n 0, 1) := by decide +kernel
theorem dX10_matchWith_16 : decode cX10_matchWith 16 = .ok (.getfield 17, 3) := by decide +kernel
theorem dX10_matchWith_19 : decode cX10_matchWith 19 = .ok (.if_icmp .ge 7, 3) := by decide +kernel
theorem dX10_matchWith_22 : decode cX10_matchWith 22 = .ok (.iconst 0, 1) := by decide +kernel
theorem dX10_matchWith_23 : decode cX10_matchWith 23 = .ok (.goto 4, 3) := by decide +kernel
theorem dX10_matchWith_26 : decode cX10_matchWith 26 = .ok (.iload_n 3, 1) := by decide +kernel
theorem dX10_matchWith_27 : decode cX10_matchWith 27 = .ok (.ireturn, 1) := by decide +kernel
theorem dX10_farthest_0 : decode cX10_farthest 0 = .ok (.aload_n 0, 1) := by decide +kernel
theorem dX10_farthest_1 : decode cX10_farthest 1 = .ok (.getfield 13, 3) := by decide +kernel
theorem dX10_farthest_4 : decode cX10_farthest 4 = .ok (.iload_n 1, 1) := by decide +kernel
theorem dX10_farthest_5 : decode cX10_farthest 5 = .ok (.invokestatic 96, 3) := by decide +kernel
theorem dX10_farthest_8 : decode cX10_farthest 8 = .ok (.ireturn, 1) := by decide +kernel
set_option maxRecDepth 20000 in
theorem ggX10_longestAt_X10_farthest : GoodIn wsX10_longestAt wsX10_farthest := goodIn_r _ [9, 10, 11, 12, 3, 13, 26, 27, 28, 29, 30, 31, 32, 33, 34, 35, 36, 37, 38, 39, 40, 41, 42, 43, 44, 45, 46, 47, 48, 49, 50, 51, 52] (by decide +kernel) (by decide +kernel)
set_option maxRecDepth 20000 in
theorem gX10_longestAt_X10_farthest : GoodIn wsX10_longestAt (wsV RX10 101 RX10 yX10_farthest wsX10_farthest) := goodIn_app (goodIn_of _ (by decide +kernel)) ggX10_longestAt_X10_farthest
set_option maxRecDepth 20000 in
theorem ggX10_longestAt_X10_matchWith : GoodIn wsX10_longestAt wsX10_matchWith := goodIn_r _ [17, 18, 11, 12, 3, 13, 19, 20, 21, 22, 8, 23, 24, 25, 26, 27, 28, 29, 30, 31, 32, 33, 34, 35, 36, 37, 38, 39, 40, 41, 42, 43, 44, 45, 46, 47, 48, 49, 50, 51, 52] (by decide +kernel) (by decide +kernel)
set_option maxRecDepth 20000 in
theorem gX10_longestAt_X10_matchWith : GoodIn wsX10_longestAt (wsV RX10 104 RX10 yX10_matchWith wsX10_matchWith) := goodIn_app (goodIn_of _ (by decide +kernel)) ggX10_longestAt_X10_matchWith
theorem dX10_longestAt_0 : decode cX10_longestAt 0 = .ok (.iconst 0, 1) := by decide +kernel
theorem dX10_longestAt_1 : decode cX10_longestAt 1 = .ok (.istore_n 2, 1) := by decide +kernel
theorem dX10_longestAt_2 : decode cX10_longestAt 2 = .ok (.iconst 1, 1) := by decide +kernel
theorem dX10_longestAt_3 : decode cX10_longestAt 3 = .ok (.istore_n 3, 1) := by decide +kernel
theorem dX10_longestAt_4 : decode cX10_longestAt 4 = .ok (.iload_n 3, 1) := by decide +kernel
theorem dX10_longestAt_5 : decode cX10_longestAt 5 = .ok (.aload_n 0, 1) := by decide +kernel
theorem dX10_longestAt_6 : decode cX10_longestAt 6 = .ok (.iload_n 1, 1) := by decide +kernel
theorem dX10_longestAt_7 : decode cX10_longestAt 7 = .ok (.invokevirtual 101, 3) := by decide +kernel
theorem dX10_longestAt_10 : decode cX10_longestAt 10 = .ok (.if_icmp .gt 20, 3) := by decide +kernel
theorem dX10_longestAt_13 : decode cX10_longestAt 13 = .ok (.iload_n 2, 1) := by decide +kernel
theorem dX10_longestAt_14 : decode cX10_longestAt 14 = .ok (.aload_n 0, 1) := by decide +kernel
theorem dX10_longestAt_15 : decode cX10_longestAt 15 = .ok (.iload_n 1, 1) := by decide +kernel
theorem dX10_longestAt_16 : decode cX10_longestAt 16 = .ok (.iload_n 3, 1) := by decide +kernel
theorem dX10_longestAt_17 : decode cX10_longestAt 17 = .ok (.invokevirtual 104, 3) := by decide +kernel
theorem dX10_longestAt_20 : decode cX10_longestAt 20 = .ok (.invokestatic 107, 3) := by decide +kernel
theorem dX10_longestAt_23 : decode cX10_longestAt 23 = .ok (.istore_n 2, 1) := by decide +kernel
theorem dX10_longestAt_24 : decode cX10_longestAt 24 = .ok (.iinc 3 1, 3) := by decide +kernel
theorem dX10_longestAt_27 : decode cX10_longestAt 27 = .ok (.goto (-23), 3) := by decide +kernel
theorem dX10_longestAt_30 : decode cX10_longestAt 30 = .ok (.iload_n 2, 1) := by decide +kernel
theorem dX10_longestAt_31 : decode cX10_longestAt 31 = .ok (.ireturn, 1) := by decide +kernel
set_option maxRecDepth 20000 in
theorem ggX10_nearestAt_X10_longestAt : GoodIn wsX10_nearestAt wsX10_longestAt := goodIn_r _ [5, 6, 7, 8, 9, 10, 11, 12, 4, 13, 14, 15, 16, 17, 18, 19, 20, 21, 22, 23, 24, 25, 26, 27, 28, 29, 30, 31, 32, 33, 34, 35, 36, 37, 38, 39, 40, 41, 42, 43, 44, 45, 46, 47, 48, 49, 50, 51, 52, 53, 54, 55, 56] (by decide +kernel) (by decide +kernel)
set_option maxRecDepth 20000 in
theorem gX10_nearestAt_X10_longestAt : GoodIn wsX10_nearestAt (wsV RX10 110 RX10 yX10_longestAt wsX10_longestAt) := goodIn_app (goodIn_of _ (by decide +kernel)) ggX10_nearestAt_X10_longestAt
set_option maxRecDepth 20000 in
theorem ggX10_nearestAt_X10_matchWith : GoodIn wsX10_nearestAt wsX10_matchWith := goodIn_r _ [21, 22, 15, 16, 8, 17, 23, 24, 25, 26, 4, 27, 28, 29, 30, 31, 32, 33, 34, 35, 36, 37, 38, 39, 40, 41, 42, 43, 44, 45, 46, 47, 48, 49, 50, 51, 52, 53, 54, 55, 56] (by decide +kernel) (by decide +kernel)
set_option maxRecDepth 20000 in
theorem gX10_nearestAt_X10_matchWith : GoodIn wsX10_nearestAt (wsV RX10 104 RX10 yX10_matchWith wsX10_matchWith) := goodIn_app (goodIn_of _ (by decide +kernel)) ggX10_nearestAt_X10_matchWith
theorem dX10_nearestAt_0 : decode cX10_nearestAt 0 = .ok (.aload_n 0, 1) := by decide +kernel
theorem dX10_nearestAt_1 : decode cX10_nearestAt 1 = .ok (.iload_n 1, 1) := by decide +kernel
theorem dX10_nearestAt_2 : decode cX10_nearestAt 2 = .ok (.invokevirtual 110, 3) := by decide +kernel
theorem dX10_nearestAt_5 : decode cX10_nearestAt 5 = .ok (.istore_n 2, 1) := by decide +kernel
theorem dX10_nearestAt_6 : decode cX10_nearestAt 6 = .ok (.iconst 1, 1) := by decide +kernel
theorem dX10_nearestAt_7 : decode cX10_nearestAt 7 = .ok (.istore_n 3, 1) := by decide +kernel
theorem dX10_nearestAt_8 : decode cX10_nearestAt 8 = .ok (.iload_n 2, 1) := by decide +kernel
theorem dX10_nearestAt_9 : decode cX10_nearestAt 9 = .ok (.ifCond .le 19, 3) := by decide +kernel
theorem dX10_nearestAt_12 : decode cX10_nearestAt 12 = .ok (.aload_n 0, 1) := by decide +kernel
theorem dX10_nearestAt_13 : decode cX10_nearestAt 13 = .ok (.iload_n 1, 1) := by decide +kernel
theorem dX10_nearestAt_14 : decode cX10_nearestAt 14 = .ok (.iload_n 3, 1) := by decide +kernel
theorem dX10_nearestAt_15 : decode cX10_nearestAt 15 = .ok (.invokevirtual 104, 3) := by decide +kernel
theorem dX10_nearestAt_18 : decode cX10_nearestAt 18 = .ok (.iload_n 2, 1) := by decide +kernel
theorem dX10_nearestAt_19 : decode cX10_nearestAt 19 = .ok (.if_icmp .ge 9, 3) := by decide +kernel
theorem dX10_nearestAt_22 : decode cX10_nearestAt 22 = .ok (.iinc 3 1, 3) := by decide +kernel
theorem dX10_nearestAt_25 : decode cX10_nearestAt 25 = .ok (.goto (-17), 3) := by decide +kernel
theorem dX10_nearestAt_28 : decode cX10_nearestAt 28 = .ok (.iload_n 2, 1) := by decide +kernel
theorem dX10_nearestAt_29 : decode cX10_nearestAt 29 = .ok (.ifCond .ne 7, 3) := by decide +kernel
theorem dX10_nearestAt_32 : decode cX10_nearestAt 32 = .ok (.iconst 0, 1) := by decide +kernel
theorem dX10_nearestAt_33 : decode cX10_nearestAt 33 = .ok (.goto 4, 3) := by decide +kernel
theorem dX10_nearestAt_36 : decode cX10_nearestAt 36 = .ok (.iload_n 3, 1) := by decide +kernel
theorem dX10_nearestAt_37 : decode cX10_nearestAt 37 = .ok (.ireturn, 1) := by decide +kernel
set_option maxRecDepth 20000 in
theorem ggX10_longest_X10_isPlace : GoodIn wsX10_longest wsX10_isPlace := goodIn_r _ [6, 7, 8, 9, 5, 10, 42, 43, 44, 45, 46, 47, 48, 49, 50, 51, 52, 53, 54, 55, 56, 57, 58, 59, 60, 61, 62, 63, 64, 65, 66, 67, 68] (by decide +kernel) (by decide +kernel)
set_option maxRecDepth 20000 in
theorem gX10_longest_X10_isPlace : GoodIn wsX10_longest (wsV RX10 85 RX10 yX10_isPlace wsX10_isPlace) := goodIn_app (goodIn_of _ (by decide +kernel)) ggX10_longest_X10_isPlace
set_option maxRecDepth 20000 in
theorem ggX10_longest_X10_longestAt : GoodIn wsX10_longest wsX10_longestAt := goodIn_r _ [14, 15, 16, 17, 18, 19, 20, 21, 5, 22, 23, 24, 25, 26, 27, 28, 29, 30, 31, 32, 33, 34, 35, 36, 7, 37, 42, 43, 44, 45, 46, 47, 48, 49, 50, 51, 52, 53, 54, 55, 56, 57, 58, 59, 60, 61, 62, 63, 64, 65, 66, 67, 68] (by decide +kernel) (by decide +kernel)
set_option maxRecDepth 20000 in
theorem gX10_longest_X10_longestAt : GoodIn wsX10_longest (wsV RX10 110 RX10 yX10_longestAt wsX10_longestAt) := goodIn_app (goodIn_of _ (by decide +kernel)) ggX10_longest_X10_longestAt
set_option maxRecDepth 20000 in
theorem ggX10_longest_X10_no : GoodIn wsX10_longest wsX10_no := goodIn_r _ [41, 1, 42, 43, 44, 45, 46, 47, 48, 49, 50, 51, 52, 53, 54, 55, 56, 57, 58, 59, 60, 61, 62, 63, 64, 65, 66, 67, 68] (by decide +kernel) (by decide +kernel)
set_option maxRecDepth 20000 in
theorem gX10_longest_X10_no : GoodIn wsX10_longest (wsV RX10 75 RX10 yX10_no wsX10_no) := goodIn_app (goodIn_of _ (by decide +kernel)) ggX10_longest_X10_no
theorem dX10_longest_0 : decode cX10_longest 0 = .ok (.aload_n 0, 1) := by decide +kernel
theorem dX10_longest_1 : decode cX10_longest 1 = .ok (.iconst 0, 1) := by decide +kernel
theorem dX10_longest_2 : decode cX10_longest 2 = .ok (.putfield 65, 3) := by decide +kernel
theorem dX10_longest_5 : decode cX10_longest 5 = .ok (.aload_n 0, 1) := by decide +kernel
theorem dX10_longest_6 : decode cX10_longest 6 = .ok (.iload_n 1, 1) := by decide +kernel
theorem dX10_longest_7 : decode cX10_longest 7 = .ok (.invokevirtual 85, 3) := by decide +kernel
theorem dX10_longest_10 : decode cX10_longest 10 = .ok (.ifCond .eq 11, 3) := by decide +kernel
theorem dX10_longest_13 : decode cX10_longest 13 = .ok (.aload_n 0, 1) := by decide +kernel
theorem dX10_longest_14 : decode cX10_longest 14 = .ok (.iload_n 1, 1) := by decide +kernel
theorem dX10_longest_15 : decode cX10_longest 15 = .ok (.invokevirtual 110, 3) := by decide +kernel
theorem dX10_longest_18 : decode cX10_longest 18 = .ok (.goto 8, 3) := by decide +kernel
theorem dX10_longest_21 : decode cX10_longest 21 = .ok (.aload_n 0, 1) := by decide +kernel
theorem dX10_longest_22 : decode cX10_longest 22 = .ok (.iconst 1, 1) := by decide +kernel
theorem dX10_longest_23 : decode cX10_longest 23 = .ok (.invokevirtual 75, 3) := by decide +kernel
theorem dX10_longest_26 : decode cX10_longest 26 = .ok (.ireturn, 1) := by decide +kernel
set_option maxRecDepth 20000 in
theorem ggX10_nearest_X10_isPlace : GoodIn wsX10_nearest wsX10_isPlace := goodIn_r _ [6, 7, 8, 9, 5, 10, 46, 47, 48, 49, 50, 51, 52, 53, 54, 55, 56, 57, 58, 59, 60, 61, 62, 63, 64, 65, 66, 67, 68, 69, 70, 71, 72] (by decide +kernel) (by decide +kernel)
set_option maxRecDepth 20000 in
theorem gX10_nearest_X10_isPlace : GoodIn wsX10_nearest (wsV RX10 85 RX10 yX10_isPlace wsX10_isPlace) := goodIn_app (goodIn_of _ (by decide +kernel)) ggX10_nearest_X10_isPlace
set_option maxRecDepth 20000 in
theorem ggX10_nearest_X10_nearestAt : GoodIn wsX10_nearest wsX10_nearestAt := goodIn_r _ [14, 15, 16, 17, 5, 18, 19, 20, 21, 22, 23, 24, 25, 26, 27, 28, 29, 30, 31, 32, 33, 34, 35, 36, 37, 38, 39, 40, 7, 41, 46, 47, 48, 49, 50, 51, 52, 53, 54, 55, 56, 57, 58, 59, 60, 61, 62, 63, 64, 65, 66, 67, 68, 69, 70, 71, 72] (by decide +kernel) (by decide +kernel)
set_option maxRecDepth 20000 in
theorem gX10_nearest_X10_nearestAt : GoodIn wsX10_nearest (wsV RX10 113 RX10 yX10_nearestAt wsX10_nearestAt) := goodIn_app (goodIn_of _ (by decide +kernel)) ggX10_nearest_X10_nearestAt
set_option maxRecDepth 20000 in
theorem ggX10_nearest_X10_no : GoodIn wsX10_nearest wsX10_no := goodIn_r _ [45, 1, 46, 47, 48, 49, 50, 51, 52, 53, 54, 55, 56, 57, 58, 59, 60, 61, 62, 63, 64, 65, 66, 67, 68, 69, 70, 71, 72] (by decide +kernel) (by decide +kernel)
set_option maxRecDepth 20000 in
theorem gX10_nearest_X10_no : GoodIn wsX10_nearest (wsV RX10 75 RX10 yX10_no wsX10_no) := goodIn_app (goodIn_of _ (by decide +kernel)) ggX10_nearest_X10_no
theorem dX10_nearest_0 : decode cX10_nearest 0 = .ok (.aload_n 0, 1) := by decide +kernel
theorem dX10_nearest_1 : decode cX10_nearest 1 = .ok (.iconst 0, 1) := by decide +kernel
theorem dX10_nearest_2 : decode cX10_nearest 2 = .ok (.putfield 65, 3) := by decide +kernel
theorem dX10_nearest_5 : decode cX10_nearest 5 = .ok (.aload_n 0, 1) := by decide +kernel
theorem dX10_nearest_6 : decode cX10_nearest 6 = .ok (.iload_n 1, 1) := by decide +kernel
theorem dX10_nearest_7 : decode cX10_nearest 7 = .ok (.invokevirtual 85, 3) := by decide +kernel
theorem dX10_nearest_10 : decode cX10_nearest 10 = .ok (.ifCond .eq 11, 3) := by decide +kernel
theorem dX10_nearest_13 : decode cX10_nearest 13 = .ok (.aload_n 0, 1) := by decide +kernel
theorem dX10_nearest_14 : decode cX10_nearest 14 = .ok (.iload_n 1, 1) := by decide +kernel
theorem dX10_nearest_15 : decode cX10_nearest 15 = .ok (.invokevirtual 113, 3) := by decide +kernel
theorem dX10_nearest_18 : decode cX10_nearest 18 = .ok (.goto 8, 3) := by decide +kernel
theorem dX10_nearest_21 : decode cX10_nearest 21 = .ok (.aload_n 0, 1) := by decide +kernel
theorem dX10_nearest_22 : decode cX10_nearest 22 = .ok (.iconst 1, 1) := by decide +kernel
theorem dX10_nearest_23 : decode cX10_nearest 23 = .ok (.invokevirtual 75, 3) := by decide +kernel
theorem dX10_nearest_26 : decode cX10_nearest 26 = .ok (.ireturn, 1) := by decide +kernel
set_option maxRecDepth 20000 in
theorem ggX10_common_X10_isPlace : GoodIn wsX10_common wsX10_isPlace := goodIn_r _ [6, 7, 8, 9, 5, 10, 20, 21, 22, 23, 24, 25, 26, 27, 28, 29, 30, 31, 32, 33, 34, 35, 36, 37, 38, 39, 40, 41, 42, 43, 44, 45, 46] (by decide +kernel) (by decide +kernel)
set_option maxRecDepth 20000 in
theorem gX10_common_X10_isPlace : GoodIn wsX10_common (wsV RX10 85 RX10 yX10_isPlace wsX10_isPlace) := goodIn_app (goodIn_of _ (by decide +kernel)) ggX10_common_X10_isPlace
set_option maxRecDepth 20000 in
theorem ggX10_common_X10_no : GoodIn wsX10_common wsX10_no := goodIn_r _ [14, 1, 20, 21, 22, 23, 24, 25, 26, 27, 28, 29, 30, 31, 32, 33, 34, 35, 36, 37, 38, 39, 40, 41, 42, 43, 44, 45, 46] (by decide +kernel) (by decide +kernel)
set_option maxRecDepth 20000 in
theorem gX10_common_X10_no : GoodIn wsX10_common (wsV RX10 75 RX10 yX10_no wsX10_no) := goodIn_app (goodIn_of _ (by decide +kernel)) ggX10_common_X10_no
set_option maxRecDepth 20000 in
theorem ggX10_common_X10_isIn : GoodIn wsX10_common wsX10_isIn := goodIn_r _ [10] (by decide +kernel) (by decide +kernel)
set_option maxRecDepth 20000 in
theorem gX10_common_X10_isIn : GoodIn wsX10_common (va_wsS RX10 71 yX10_isIn wsX10_isIn) := goodIn_app (goodIn_of _ (by decide +kernel)) ggX10_common_X10_isIn
set_option maxRecDepth 20000 in
theorem ggX10_common_X10_goesOn : GoodIn wsX10_common wsX10_goesOn := goodIn_r _ [18, 7, 19, 20, 21, 22, 23, 24, 25, 26, 27, 28, 29, 30, 31, 32, 33, 34, 35, 36, 37, 38, 39, 40, 41, 42, 43, 44, 45, 46] (by decide +kernel) (by decide +kernel)
set_option maxRecDepth 20000 in
theorem gX10_common_X10_goesOn : GoodIn wsX10_common (wsV RX10 92 RX10 yX10_goesOn wsX10_goesOn) := goodIn_app (goodIn_of _ (by decide +kernel)) ggX10_common_X10_goesOn
theorem dX10_common_0 : decode cX10_common 0 = .ok (.aload_n 0, 1) := by decide +kernel
theorem dX10_common_1 : decode cX10_common 1 = .ok (.iconst 0, 1) := by decide +kernel
theorem dX10_common_2 : decode cX10_common 2 = .ok (.putfield 65, 3) := by decide +kernel
theorem dX10_common_5 : decode cX10_common 5 = .ok (.aload_n 0, 1) := by decide +kernel
theorem dX10_common_6 : decode cX10_common 6 = .ok (.iload_n 1, 1) := by decide +kernel
theorem dX10_common_7 : decode cX10_common 7 = .ok (.invokevirtual 85, 3) := by decide +kernel
theorem dX10_common_10 : decode cX10_common 10 = .ok (.ifCond .ne 9, 3) := by decide +kernel
theorem dX10_common_13 : decode cX10_common 13 = .ok (.aload_n 0, 1) := by decide +kernel
theorem dX10_common_14 : decode cX10_common 14 = .ok (.iconst 1, 1) := by decide +kernel
theorem dX10_common_15 : decode cX10_common 15 = .ok (.invokevirtual 75, 3) := by decide +kernel
theorem dX10_common_18 : decode cX10_common 18 = .ok (.ireturn, 1) := by decide +kernel
theorem dX10_common_19 : decode cX10_common 19 = .ok (.iload_n 2, 1) := by decide +kernel
theorem dX10_common_20 : decode cX10_common 20 = .ok (.iconst 1, 1) := by decide +kernel
theorem dX10_common_21 : decode cX10_common 21 = .ok (.bipush 64, 2) := by decide +kernel
theorem dX10_common_23 : decode cX10_common 23 = .ok (.invokestatic 71, 3) := by decide +kernel
theorem dX10_common_26 : decode cX10_common 26 = .ok (.ifCond .eq 17, 3) := by decide +kernel
theorem dX10_common_29 : decode cX10_common 29 = .ok (.iload_n 2, 1) := by decide +kernel
theorem dX10_common_30 : decode cX10_common 30 = .ok (.iload_n 1, 1) := by decide +kernel
theorem dX10_common_31 : decode cX10_common 31 = .ok (.if_icmp .gt 12, 3) := by decide +kernel
theorem dX10_common_34 : decode cX10_common 34 = .ok (.aload_n 0, 1) := by decide +kernel
theorem dX10_common_35 : decode cX10_common 35 = .ok (.iload_n 1, 1) := by decide +kernel
theorem dX10_common_36 : decode cX10_common 36 = .ok (.iload_n 2, 1) := by decide +kernel
theorem dX10_common_37 : decode cX10_common 37 = .ok (.invokevirtual 92, 3) := by decide +kernel
theorem dX10_common_40 : decode cX10_common 40 = .ok (.goto 8, 3) := by decide +kernel
theorem dX10_common_43 : decode cX10_common 43 = .ok (.aload_n 0, 1) := by decide +kernel
theorem dX10_common_44 : decode cX10_common 44 = .ok (.iconst 2, 1) := by decide +kernel
theorem dX10_common_45 : decode cX10_common 45 = .ok (.invokevirtual 75, 3) := by decide +kernel
theorem dX10_common_48 : decode cX10_common 48 = .ok (.ireturn, 1) := by decide +kernel
theorem dX10_width_0 : decode cX10_width 0 = .ok (.iconst 0, 1) := by decide +kernel
theorem dX10_width_1 : decode cX10_width 1 = .ok (.istore_n 1, 1) := by decide +kernel
theorem dX10_width_2 : decode cX10_width 2 = .ok (.iload_n 0, 1) := by decide +kernel
theorem dX10_width_3 : decode cX10_width 3 = .ok (.iload_n 1, 1) := by decide +kernel
theorem dX10_width_4 : decode cX10_width 4 = .ok (.ishr, 1) := by decide +kernel
theorem dX10_width_5 : decode cX10_width 5 = .ok (.ifCond .le 9, 3) := by decide +kernel
theorem dX10_width_8 : decode cX10_width 8 = .ok (.iinc 1 1, 3) := by decide +kernel
theorem dX10_width_11 : decode cX10_width 11 = .ok (.goto (-9), 3) := by decide +kernel
theorem dX10_width_14 : decode cX10_width 14 = .ok (.iconst 2, 1) := by decide +kernel
theorem dX10_width_15 : decode cX10_width 15 = .ok (.iload_n 1, 1) := by decide +kernel
theorem dX10_width_16 : decode cX10_width 16 = .ok (.imul, 1) := by decide +kernel
theorem dX10_width_17 : decode cX10_width 17 = .ok (.iconst 1, 1) := by decide +kernel
theorem dX10_width_18 : decode cX10_width 18 = .ok (.isub, 1) := by decide +kernel
theorem dX10_width_19 : decode cX10_width 19 = .ok (.ireturn, 1) := by decide +kernel
set_option maxRecDepth 20000 in
theorem ggX10_widthOf_X10_isIn : GoodIn wsX10_widthOf wsX10_isIn := goodIn_r _ [5] (by decide +kernel) (by decide +kernel)
set_option maxRecDepth 20000 in
theorem gX10_widthOf_X10_isIn : GoodIn wsX10_widthOf (va_wsS RX10 71 yX10_isIn wsX10_isIn) := goodIn_app (goodIn_of _ (by decide +kernel)) ggX10_widthOf_X10_isIn
set_option maxRecDepth 20000 in
theorem ggX10_widthOf_X10_width : GoodIn wsX10_widthOf wsX10_width := goodIn_r _ [8] (by decide +kernel) (by decide +kernel)
set_option maxRecDepth 20000 in
theorem gX10_widthOf_X10_width : GoodIn wsX10_widthOf (va_wsS RX10 116 yX10_width wsX10_width) := goodIn_app (goodIn_of _ (by decide +kernel)) ggX10_widthOf_X10_width
set_option maxRecDepth 20000 in
theorem ggX10_widthOf_X10_no : GoodIn wsX10_widthOf wsX10_no := goodIn_r _ [12, 1, 13, 14, 15, 16, 17, 18, 19, 20, 21, 22, 23, 24, 25, 26, 27, 28, 29, 30, 31, 32, 33, 34, 35, 36, 37, 38, 39] (by decide +kernel) (by decide +kernel)
set_option maxRecDepth 20000 in
theorem gX10_widthOf_X10_no : GoodIn wsX10_widthOf (wsV RX10 75 RX10 yX10_no wsX10_no) := goodIn_app (goodIn_of _ (by decide +kernel)) ggX10_widthOf_X10_no
theorem dX10_widthOf_0 : decode cX10_widthOf 0 = .ok (.aload_n 0, 1) := by decide +kernel
theorem dX10_widthOf_1 : decode cX10_widthOf 1 = .ok (.iconst 0, 1) := by decide +kernel
theorem dX10_widthOf_2 : decode cX10_widthOf 2 = .ok (.putfield 65, 3) := by decide +kernel
theorem dX10_widthOf_5 : decode cX10_widthOf 5 = .ok (.iload_n 1, 1) := by decide +kernel
theorem dX10_widthOf_6 : decode cX10_widthOf 6 = .ok (.iconst 1, 1) := by decide +kernel
theorem dX10_widthOf_7 : decode cX10_widthOf 7 = .ok (.sipush 255, 3) := by decide +kernel
theorem dX10_widthOf_10 : decode cX10_widthOf 10 = .ok (.invokestatic 71, 3) := by decide +kernel
theorem dX10_widthOf_13 : decode cX10_widthOf 13 = .ok (.ifCond .eq 10, 3) := by decide +kernel
theorem dX10_widthOf_16 : decode cX10_widthOf 16 = .ok (.iload_n 1, 1) := by decide +kernel
theorem dX10_widthOf_17 : decode cX10_widthOf 17 = .ok (.invokestatic 116, 3) := by decide +kernel
theorem dX10_widthOf_20 : decode cX10_widthOf 20 = .ok (.goto 8, 3) := by decide +kernel
theorem dX10_widthOf_23 : decode cX10_widthOf 23 = .ok (.aload_n 0, 1) := by decide +kernel
theorem dX10_widthOf_24 : decode cX10_widthOf 24 = .ok (.iconst 1, 1) := by decide +kernel
theorem dX10_widthOf_25 : decode cX10_widthOf 25 = .ok (.invokevirtual 75, 3) := by decide +kernel
theorem dX10_widthOf_28 : decode cX10_widthOf 28 = .ok (.ireturn, 1) := by decide +kernel
set_option maxRecDepth 20000 in
theorem ggX10_bitsOf_X10_width : GoodIn wsX10_bitsOf wsX10_width := goodIn_r _ [4] (by decide +kernel) (by decide +kernel)
set_option maxRecDepth 20000 in
theorem gX10_bitsOf_X10_width : GoodIn wsX10_bitsOf (va_wsS RX10 116 yX10_width wsX10_width) := goodIn_app (goodIn_of _ (by decide +kernel)) ggX10_bitsOf_X10_width
theorem dX10_bitsOf_0 : decode cX10_bitsOf 0 = .ok (.iload_n 0, 1) := by decide +kernel
theorem dX10_bitsOf_1 : decode cX10_bitsOf 1 = .ok (.ifCond .ne 8, 3) := by decide +kernel
theorem dX10_bitsOf_4 : decode cX10_bitsOf 4 = .ok (.bipush 9, 2) := by decide +kernel
theorem dX10_bitsOf_6 : decode cX10_bitsOf 6 = .ok (.goto 30, 3) := by decide +kernel
theorem dX10_bitsOf_9 : decode cX10_bitsOf 9 = .ok (.iload_n 0, 1) := by decide +kernel
theorem dX10_bitsOf_10 : decode cX10_bitsOf 10 = .ok (.iconst 1, 1) := by decide +kernel
theorem dX10_bitsOf_11 : decode cX10_bitsOf 11 = .ok (.if_icmp .ne 19, 3) := by decide +kernel
theorem dX10_bitsOf_14 : decode cX10_bitsOf 14 = .ok (.iconst 2, 1) := by decide +kernel
theorem dX10_bitsOf_15 : decode cX10_bitsOf 15 = .ok (.iload_n 2, 1) := by decide +kernel
theorem dX10_bitsOf_16 : decode cX10_bitsOf 16 = .ok (.invokestatic 116, 3) := by decide +kernel
theorem dX10_bitsOf_19 : decode cX10_bitsOf 19 = .ok (.iadd, 1) := by decide +kernel
theorem dX10_bitsOf_20 : decode cX10_bitsOf 20 = .ok (.iload_n 1, 1) := by decide +kernel
theorem dX10_bitsOf_21 : decode cX10_bitsOf 21 = .ok (.iconst 1, 1) := by decide +kernel
theorem dX10_bitsOf_22 : decode cX10_bitsOf 22 = .ok (.isub, 1) := by decide +kernel
theorem dX10_bitsOf_23 : decode cX10_bitsOf 23 = .ok (.invokestatic 116, 3) := by decide +kernel
theorem dX10_bitsOf_26 : decode cX10_bitsOf 26 = .ok (.iadd, 1) := by decide +kernel
theorem dX10_bitsOf_27 : decode cX10_bitsOf 27 = .ok (.goto 9, 3) := by decide +kernel
theorem dX10_bitsOf_30 : decode cX10_bitsOf 30 = .ok (.iconst 2, 1) := by decide +kernel
theorem dX10_bitsOf_31 : decode cX10_bitsOf 31 = .ok (.iload_n 1, 1) := by decide +kernel
theorem dX10_bitsOf_32 : decode cX10_bitsOf 32 = .ok (.invokestatic 116, 3) := by decide +kernel
theorem dX10_bitsOf_35 : decode cX10_bitsOf 35 = .ok (.iadd, 1) := by decide +kernel
theorem dX10_bitsOf_36 : decode cX10_bitsOf 36 = .ok (.ireturn, 1) := by decide +kernel
theorem dX10_put_0 : decode cX10_put 0 = .ok (.aload_n 0, 1) := by decide +kernel
theorem dX10_put_1 : decode cX10_put 1 = .ok (.getfield 23, 3) := by decide +kernel
theorem dX10_put_4 : decode cX10_put 4 = .ok (.aload_n 0, 1) := by decide +kernel
theorem dX10_put_5 : decode cX10_put 5 = .ok (.getfield 119, 3) := by decide +kernel
theorem dX10_put_8 : decode cX10_put 8 = .ok (.iload_n 1, 1) := by decide +kernel
theorem dX10_put_9 : decode cX10_put 9 = .ok (.iastore, 1) := by decide +kernel
theorem dX10_put_10 : decode cX10_put 10 = .ok (.aload_n 0, 1) := by decide +kernel
theorem dX10_put_11 : decode cX10_put 11 = .ok (.getfield 32, 3) := by decide +kernel
theorem dX10_put_14 : decode cX10_put 14 = .ok (.aload_n 0, 1) := by decide +kernel
theorem dX10_put_15 : decode cX10_put 15 = .ok (.getfield 119, 3) := by decide +kernel
theorem dX10_put_18 : decode cX10_put 18 = .ok (.iload_n 2, 1) := by decide +kernel
theorem dX10_put_19 : decode cX10_put 19 = .ok (.iastore, 1) := by decide +kernel
theorem dX10_put_20 : decode cX10_put 20 = .ok (.aload_n 0, 1) := by decide +kernel
theorem dX10_put_21 : decode cX10_put 21 = .ok (.getfield 26, 3) := by decide +kernel
theorem dX10_put_24 : decode cX10_put 24 = .ok (.aload_n 0, 1) := by decide +kernel
theorem dX10_put_25 : decode cX10_put 25 = .ok (.getfield 119, 3) := by decide +kernel
theorem dX10_put_28 : decode cX10_put 28 = .ok (.iload_n 3, 1) := by decide +kernel
theorem dX10_put_29 : decode cX10_put 29 = .ok (.iastore, 1) := by decide +kernel
theorem dX10_put_30 : decode cX10_put 30 = .ok (.aload_n 0, 1) := by decide +kernel
theorem dX10_put_31 : decode cX10_put 31 = .ok (.getfield 29, 3) := by decide +kernel
theorem dX10_put_34 : decode cX10_put 34 = .ok (.aload_n 0, 1) := by decide +kernel
theorem dX10_put_35 : decode cX10_put 35 = .ok (.getfield 119, 3) := by decide +kernel
theorem dX10_put_38 : decode cX10_put 38 = .ok (.iload 4, 2) := by decide +kernel
theorem dX10_put_40 : decode cX10_put 40 = .ok (.iastore, 1) := by decide +kernel
theorem dX10_put_41 : decode cX10_put 41 = .ok (.aload_n 0, 1) := by decide +kernel
theorem dX10_put_42 : decode cX10_put 42 = .ok (.dup, 1) := by decide +kernel
theorem dX10_put_43 : decode cX10_put 43 = .ok (.getfield 119, 3) := by decide +kernel
theorem dX10_put_46 : decode cX10_put 46 = .ok (.iconst 1, 1) := by decide +kernel
theorem dX10_put_47 : decode cX10_put 47 = .ok (.iadd, 1) := by decide +kernel
theorem dX10_put_48 : decode cX10_put 48 = .ok (.putfield 119, 3) := by decide +kernel
theorem dX10_put_51 : decode cX10_put 51 = .ok (.return_, 1) := by decide +kernel
set_option maxRecDepth 20000 in
theorem ggX10_sum_X10_bitsOf : GoodIn wsX10_sum wsX10_bitsOf := goodIn_r _ [9, 10, 11, 8, 12] (by decide +kernel) (by decide +kernel)
set_option maxRecDepth 20000 in
theorem gX10_sum_X10_bitsOf : GoodIn wsX10_sum (va_wsS RX10 122 yX10_bitsOf wsX10_bitsOf) := goodIn_app (goodIn_of _ (by decide +kernel)) ggX10_sum_X10_bitsOf
theorem dX10_sum_0 : decode cX10_sum 0 = .ok (.iconst 0, 1) := by decide +kernel
theorem dX10_sum_1 : decode cX10_sum 1 = .ok (.istore_n 1, 1) := by decide +kernel
theorem dX10_sum_2 : decode cX10_sum 2 = .ok (.iconst 0, 1) := by decide +kernel
theorem dX10_sum_3 : decode cX10_sum 3 = .ok (.istore_n 2, 1) := by decide +kernel
theorem dX10_sum_4 : decode cX10_sum 4 = .ok (.iload_n 2, 1) := by decide +kernel
theorem dX10_sum_5 : decode cX10_sum 5 = .ok (.aload_n 0, 1) := by decide +kernel
theorem dX10_sum_6 : decode cX10_sum 6 = .ok (.getfield 119, 3) := by decide +kernel
theorem dX10_sum_9 : decode cX10_sum 9 = .ok (.if_icmp .ge 38, 3) := by decide +kernel
theorem dX10_sum_12 : decode cX10_sum 12 = .ok (.iload_n 1, 1) := by decide +kernel
theorem dX10_sum_13 : decode cX10_sum 13 = .ok (.aload_n 0, 1) := by decide +kernel
theorem dX10_sum_14 : decode cX10_sum 14 = .ok (.getfield 23, 3) := by decide +kernel
theorem dX10_sum_17 : decode cX10_sum 17 = .ok (.iload_n 2, 1) := by decide +kernel
theorem dX10_sum_18 : decode cX10_sum 18 = .ok (.iaload, 1) := by decide +kernel
theorem dX10_sum_19 : decode cX10_sum 19 = .ok (.aload_n 0, 1) := by decide +kernel
theorem dX10_sum_20 : decode cX10_sum 20 = .ok (.getfield 26, 3) := by decide +kernel
theorem dX10_sum_23 : decode cX10_sum 23 = .ok (.iload_n 2, 1) := by decide +kernel
theorem dX10_sum_24 : decode cX10_sum 24 = .ok (.iaload, 1) := by decide +kernel
theorem dX10_sum_25 : decode cX10_sum 25 = .ok (.aload_n 0, 1) := by decide +kernel
theorem dX10_sum_26 : decode cX10_sum 26 = .ok (.getfield 29, 3) := by decide +kernel
theorem dX10_sum_29 : decode cX10_sum 29 = .ok (.iload_n 2, 1) := by decide +kernel
theorem dX10_sum_30 : decode cX10_sum 30 = .ok (.iaload, 1) := by decide +kernel
theorem dX10_sum_31 : decode cX10_sum 31 = .ok (.invokestatic 122, 3) := by decide +kernel
theorem dX10_sum_34 : decode cX10_sum 34 = .ok (.aload_n 0, 1) := by decide +kernel
theorem dX10_sum_35 : decode cX10_sum 35 = .ok (.getfield 89, 3) := by decide +kernel
theorem dX10_sum_38 : decode cX10_sum 38 = .ok (.iadd, 1) := by decide +kernel
theorem dX10_sum_39 : decode cX10_sum 39 = .ok (.iadd, 1) := by decide +kernel
theorem dX10_sum_40 : decode cX10_sum 40 = .ok (.istore_n 1, 1) := by decide +kernel
theorem dX10_sum_41 : decode cX10_sum 41 = .ok (.iinc 2 1, 3) := by decide +kernel
theorem dX10_sum_44 : decode cX10_sum 44 = .ok (.goto (-40), 3) := by decide +kernel
theorem dX10_sum_47 : decode cX10_sum 47 = .ok (.iload_n 1, 1) := by decide +kernel
theorem dX10_sum_48 : decode cX10_sum 48 = .ok (.ireturn, 1) := by decide +kernel
theorem dX10_offer_0 : decode cX10_offer 0 = .ok (.iload 5, 2) := by decide +kernel
theorem dX10_offer_2 : decode cX10_offer 2 = .ok (.aload_n 0, 1) := by decide +kernel
theorem dX10_offer_3 : decode cX10_offer 3 = .ok (.getfield 44, 3) := by decide +kernel
theorem dX10_offer_6 : decode cX10_offer 6 = .ok (.iload 6, 2) := by decide +kernel
theorem dX10_offer_8 : decode cX10_offer 8 = .ok (.iaload, 1) := by decide +kernel
theorem dX10_offer_9 : decode cX10_offer 9 = .ok (.iadd, 1) := by decide +kernel
theorem dX10_offer_10 : decode cX10_offer 10 = .ok (.istore 7, 2) := by decide +kernel
theorem dX10_offer_12 : decode cX10_offer 12 = .ok (.iconst 1, 1) := by decide +kernel
theorem dX10_offer_13 : decode cX10_offer 13 = .ok (.aload_n 0, 1) := by decide +kernel
theorem dX10_offer_14 : decode cX10_offer 14 = .ok (.getfield 47, 3) := by decide +kernel
theorem dX10_offer_17 : decode cX10_offer 17 = .ok (.iload 6, 2) := by decide +kernel
theorem dX10_offer_19 : decode cX10_offer 19 = .ok (.iaload, 1) := by decide +kernel
theorem dX10_offer_20 : decode cX10_offer 20 = .ok (.iadd, 1) := by decide +kernel
theorem dX10_offer_21 : decode cX10_offer 21 = .ok (.istore 8, 2) := by decide +kernel
theorem dX10_offer_23 : decode cX10_offer 23 = .ok (.aload_n 0, 1) := by decide +kernel
theorem dX10_offer_24 : decode cX10_offer 24 = .ok (.getfield 44, 3) := by decide +kernel
theorem dX10_offer_27 : decode cX10_offer 27 = .ok (.iload_n 1, 1) := by decide +kernel
theorem dX10_offer_28 : decode cX10_offer 28 = .ok (.iaload, 1) := by decide +kernel
theorem dX10_offer_29 : decode cX10_offer 29 = .ok (.iconst (-1), 1) := by decide +kernel
theorem dX10_offer_30 : decode cX10_offer 30 = .ok (.if_icmp .eq 37, 3) := by decide +kernel
theorem dX10_offer_33 : decode cX10_offer 33 = .ok (.iload 7, 2) := by decide +kernel
theorem dX10_offer_35 : decode cX10_offer 35 = .ok (.aload_n 0, 1) := by decide +kernel
theorem dX10_offer_36 : decode cX10_offer 36 = .ok (.getfield 44, 3) := by decide +kernel
theorem dX10_offer_39 : decode cX10_offer 39 = .ok (.iload_n 1, 1) := by decide +kernel
theorem dX10_offer_40 : decode cX10_offer 40 = .ok (.iaload, 1) := by decide +kernel
theorem dX10_offer_41 : decode cX10_offer 41 = .ok (.if_icmp .gt 25, 3) := by decide +kernel
theorem dX10_offer_44 : decode cX10_offer 44 = .ok (.iload 7, 2) := by decide +kernel
theorem dX10_offer_46 : decode cX10_offer 46 = .ok (.aload_n 0, 1) := by decide +kernel
theorem dX10_offer_47 : decode cX10_offer 47 = .ok (.getfield 44, 3) := by decide +kernel
theorem dX10_offer_50 : decode cX10_offer 50 = .ok (.iload_n 1, 1) := by decide +kernel
theorem dX10_offer_51 : decode cX10_offer 51 = .ok (.iaload, 1) := by decide +kernel
theorem dX10_offer_52 : decode cX10_offer 52 = .ok (.if_icmp .ne 15, 3) := by decide +kernel
theorem dX10_offer_55 : decode cX10_offer 55 = .ok (.iload 8, 2) := by decide +kernel
theorem dX10_offer_57 : decode cX10_offer 57 = .ok (.aload_n 0, 1) := by decide +kernel
theorem dX10_offer_58 : decode cX10_offer 58 = .ok (.getfield 47, 3) := by decide +kernel
theorem dX10_offer_61 : decode cX10_offer 61 = .ok (.iload_n 1, 1) := by decide +kernel
theorem dX10_offer_62 : decode cX10_offer 62 = .ok (.iaload, 1) := by decide +kernel
theorem dX10_offer_63 : decode cX10_offer 63 = .ok (.if_icmp .lt 4, 3) := by decide +kernel
theorem dX10_offer_66 : decode cX10_offer 66 = .ok (.return_, 1) := by decide +kernel
theorem dX10_offer_67 : decode cX10_offer 67 = .ok (.aload_n 0, 1) := by decide +kernel
theorem dX10_offer_68 : decode cX10_offer 68 = .ok (.getfield 44, 3) := by decide +kernel
theorem dX10_offer_71 : decode cX10_offer 71 = .ok (.iload_n 1, 1) := by decide +kernel
theorem dX10_offer_72 : decode cX10_offer 72 = .ok (.iload 7, 2) := by decide +kernel
theorem dX10_offer_74 : decode cX10_offer 74 = .ok (.iastore, 1) := by decide +kernel
theorem dX10_offer_75 : decode cX10_offer 75 = .ok (.aload_n 0, 1) := by decide +kernel
theorem dX10_offer_76 : decode cX10_offer 76 = .ok (.getfield 47, 3) := by decide +kernel
theorem dX10_offer_79 : decode cX10_offer 79 = .ok (.iload_n 1, 1) := by decide +kernel
theorem dX10_offer_80 : decode cX10_offer 80 = .ok (.iload 8, 2) := by decide +kernel
theorem dX10_offer_82 : decode cX10_offer 82 = .ok (.iastore, 1) := by decide +kernel
theorem dX10_offer_83 : decode cX10_offer 83 = .ok (.aload_n 0, 1) := by decide +kernel
theorem dX10_offer_84 : decode cX10_offer 84 = .ok (.getfield 50, 3) := by decide +kernel
theorem dX10_offer_87 : decode cX10_offer 87 = .ok (.iload_n 1, 1) := by decide +kernel
theorem dX10_offer_88 : decode cX10_offer 88 = .ok (.iload_n 2, 1) := by decide +kernel
theorem dX10_offer_89 : decode cX10_offer 89 = .ok (.iastore, 1) := by decide +kernel
theorem dX10_offer_90 : decode cX10_offer 90 = .ok (.aload_n 0, 1) := by decide +kernel
theorem dX10_offer_91 : decode cX10_offer 91 = .ok (.getfield 53, 3) := by decide +kernel
theorem dX10_offer_94 : decode cX10_offer 94 = .ok (.iload_n 1, 1) := by decide +kernel
theorem dX10_offer_95 : decode cX10_offer 95 = .ok (.iload_n 3, 1) := by decide +kernel
theorem dX10_offer_96 : decode cX10_offer 96 = .ok (.iastore, 1) := by decide +kernel
theorem dX10_offer_97 : decode cX10_offer 97 = .ok (.aload_n 0, 1) := by decide +kernel
theorem dX10_offer_98 : decode cX10_offer 98 = .ok (.getfield 56, 3) := by decide +kernel
theorem dX10_offer_101 : decode cX10_offer 101 = .ok (.iload_n 1, 1) := by decide +kernel
theorem dX10_offer_102 : decode cX10_offer 102 = .ok (.iload 4, 2) := by decide +kernel
theorem dX10_offer_104 : decode cX10_offer 104 = .ok (.iastore, 1) := by decide +kernel
theorem dX10_offer_105 : decode cX10_offer 105 = .ok (.return_, 1) := by decide +kernel
set_option maxRecDepth 20000 in
theorem ggX10_look_X10_offer : GoodIn wsX10_look wsX10_offer := goodIn_r _ [16, 1, 17, 18, 19, 20, 32, 33, 34, 35, 36, 37, 38, 39, 40, 41, 42, 43, 44, 45, 46, 47, 48, 49, 50, 51, 52, 53, 54, 55, 56, 57, 58] (by decide +kernel) (by decide +kernel)
set_option maxRecDepth 20000 in
theorem gX10_look_X10_offer : GoodIn wsX10_look (wsV RX10 126 RX10 yX10_offer wsX10_offer) := goodIn_app (goodIn_of _ (by decide +kernel)) ggX10_look_X10_offer
set_option maxRecDepth 20000 in
theorem ggX10_look_X10_farthest : GoodIn wsX10_look wsX10_farthest := goodIn_r _ [24, 25, 5, 6, 7, 8, 32, 33, 34, 35, 36, 37, 38, 39, 40, 41, 42, 43, 44, 45, 46, 47, 48, 49, 50, 51, 52, 53, 54, 55, 56, 57, 58] (by decide +kernel) (by decide +kernel)
set_option maxRecDepth 20000 in
theorem gX10_look_X10_farthest : GoodIn wsX10_look (wsV RX10 101 RX10 yX10_farthest wsX10_farthest) := goodIn_app (goodIn_of _ (by decide +kernel)) ggX10_look_X10_farthest
set_option maxRecDepth 20000 in
theorem ggX10_look_X10_bitsOf : GoodIn wsX10_look wsX10_bitsOf := goodIn_r _ [28, 29, 30, 15, 31] (by decide +kernel) (by decide +kernel)
set_option maxRecDepth 20000 in
theorem gX10_look_X10_bitsOf : GoodIn wsX10_look (va_wsS RX10 122 yX10_bitsOf wsX10_bitsOf) := goodIn_app (goodIn_of _ (by decide +kernel)) ggX10_look_X10_bitsOf
theorem dX10_look_0 : decode cX10_look 0 = .ok (.bipush 65, 2) := by decide +kernel
theorem dX10_look_2 : decode cX10_look 2 = .ok (.iload_n 1, 1) := by decide +kernel
theorem dX10_look_3 : decode cX10_look 3 = .ok (.imul, 1) := by decide +kernel
theorem dX10_look_4 : decode cX10_look 4 = .ok (.iload_n 2, 1) := by decide +kernel
theorem dX10_look_5 : decode cX10_look 5 = .ok (.iadd, 1) := by decide +kernel
theorem dX10_look_6 : decode cX10_look 6 = .ok (.istore_n 3, 1) := by decide +kernel
theorem dX10_look_7 : decode cX10_look 7 = .ok (.aload_n 0, 1) := by decide +kernel
theorem dX10_look_8 : decode cX10_look 8 = .ok (.getfield 44, 3) := by decide +kernel
theorem dX10_look_11 : decode cX10_look 11 = .ok (.iload_n 3, 1) := by decide +kernel
theorem dX10_look_12 : decode cX10_look 12 = .ok (.iconst (-1), 1) := by decide +kernel
theorem dX10_look_13 : decode cX10_look 13 = .ok (.iastore, 1) := by decide +kernel
theorem dX10_look_14 : decode cX10_look 14 = .ok (.aload_n 0, 1) := by decide +kernel
theorem dX10_look_15 : decode cX10_look 15 = .ok (.iload_n 3, 1) := by decide +kernel
theorem dX10_look_16 : decode cX10_look 16 = .ok (.iconst 0, 1) := by decide +kernel
theorem dX10_look_17 : decode cX10_look 17 = .ok (.iconst 1, 1) := by decide +kernel
theorem dX10_look_18 : decode cX10_look 18 = .ok (.iconst 0, 1) := by decide +kernel
theorem dX10_look_19 : decode cX10_look 19 = .ok (.bipush 9, 2) := by decide +kernel
theorem dX10_look_21 : decode cX10_look 21 = .ok (.aload_n 0, 1) := by decide +kernel
theorem dX10_look_22 : decode cX10_look 22 = .ok (.getfield 89, 3) := by decide +kernel
theorem dX10_look_25 : decode cX10_look 25 = .ok (.iadd, 1) := by decide +kernel
theorem dX10_look_26 : decode cX10_look 26 = .ok (.iload_n 3, 1) := by decide +kernel
theorem dX10_look_27 : decode cX10_look 27 = .ok (.bipush 65, 2) := by decide +kernel
theorem dX10_look_29 : decode cX10_look 29 = .ok (.iadd, 1) := by decide +kernel
theorem dX10_look_30 : decode cX10_look 30 = .ok (.invokevirtual 126, 3) := by decide +kernel
theorem dX10_look_33 : decode cX10_look 33 = .ok (.iload_n 2, 1) := by decide +kernel
theorem dX10_look_34 : decode cX10_look 34 = .ok (.ifCond .ne 97, 3) := by decide +kernel
theorem dX10_look_37 : decode cX10_look 37 = .ok (.aload_n 0, 1) := by decide +kernel
theorem dX10_look_38 : decode cX10_look 38 = .ok (.getfield 20, 3) := by decide +kernel
theorem dX10_look_41 : decode cX10_look 41 = .ok (.aload_n 0, 1) := by decide +kernel
theorem dX10_look_42 : decode cX10_look 42 = .ok (.getfield 68, 3) := by decide +kernel
theorem dX10_look_45 : decode cX10_look 45 = .ok (.iload_n 1, 1) := by decide +kernel
theorem dX10_look_46 : decode cX10_look 46 = .ok (.isub, 1) := by decide +kernel
theorem dX10_look_47 : decode cX10_look 47 = .ok (.invokestatic 96, 3) := by decide +kernel
theorem dX10_look_50 : decode cX10_look 50 = .ok (.istore 4, 2) := by decide +kernel
theorem dX10_look_52 : decode cX10_look 52 = .ok (.iload 4, 2) := by decide +kernel
theorem dX10_look_54 : decode cX10_look 54 = .ok (.aload_n 0, 1) := by decide +kernel
theorem dX10_look_55 : decode cX10_look 55 = .ok (.getfield 17, 3) := by decide +kernel
theorem dX10_look_58 : decode cX10_look 58 = .ok (.if_icmp .lt 73, 3) := by decide +kernel
theorem dX10_look_61 : decode cX10_look 61 = .ok (.iconst 1, 1) := by decide +kernel
theorem dX10_look_62 : decode cX10_look 62 = .ok (.istore 5, 2) := by decide +kernel
theorem dX10_look_64 : decode cX10_look 64 = .ok (.iload 5, 2) := by decide +kernel
theorem dX10_look_66 : decode cX10_look 66 = .ok (.aload_n 0, 1) := by decide +kernel
theorem dX10_look_67 : decode cX10_look 67 = .ok (.iload_n 1, 1) := by decide +kernel
theorem dX10_look_68 : decode cX10_look 68 = .ok (.invokevirtual 101, 3) := by decide +kernel
theorem dX10_look_71 : decode cX10_look 71 = .ok (.if_icmp .gt 54, 3) := by decide +kernel
theorem dX10_look_74 : decode cX10_look 74 = .ok (.aload_n 0, 1) := by decide +kernel
theorem dX10_look_75 : decode cX10_look 75 = .ok (.getfield 59, 3) := by decide +kernel
theorem dX10_look_78 : decode cX10_look 78 = .ok (.iload 5, 2) := by decide +kernel
theorem dX10_look_80 : decode cX10_look 80 = .ok (.iaload, 1) := by decide +kernel
theorem dX10_look_81 : decode cX10_look 81 = .ok (.iload 4, 2) := by decide +kernel
theorem dX10_look_83 : decode cX10_look 83 = .ok (.if_icmp .lt 36, 3) := by decide +kernel
theorem dX10_look_86 : decode cX10_look 86 = .ok (.aload_n 0, 1) := by decide +kernel
theorem dX10_look_87 : decode cX10_look 87 = .ok (.iload_n 3, 1) := by decide +kernel
theorem dX10_look_88 : decode cX10_look 88 = .ok (.iconst 1, 1) := by decide +kernel
theorem dX10_look_89 : decode cX10_look 89 = .ok (.iload 4, 2) := by decide +kernel
theorem dX10_look_91 : decode cX10_look 91 = .ok (.iload 5, 2) := by decide +kernel
theorem dX10_look_93 : decode cX10_look 93 = .ok (.iconst 1, 1) := by decide +kernel
theorem dX10_look_94 : decode cX10_look 94 = .ok (.iload 4, 2) := by decide +kernel
theorem dX10_look_96 : decode cX10_look 96 = .ok (.iload 5, 2) := by decide +kernel
theorem dX10_look_98 : decode cX10_look 98 = .ok (.invokestatic 122, 3) := by decide +kernel
theorem dX10_look_101 : decode cX10_look 101 = .ok (.aload_n 0, 1) := by decide +kernel
theorem dX10_look_102 : decode cX10_look 102 = .ok (.getfield 89, 3) := by decide +kernel
theorem dX10_look_105 : decode cX10_look 105 = .ok (.iadd, 1) := by decide +kernel
theorem dX10_look_106 : decode cX10_look 106 = .ok (.bipush 65, 2) := by decide +kernel
theorem dX10_look_108 : decode cX10_look 108 = .ok (.iload_n 1, 1) := by decide +kernel
theorem dX10_look_109 : decode cX10_look 109 = .ok (.iload 4, 2) := by decide +kernel
theorem dX10_look_111 : decode cX10_look 111 = .ok (.iadd, 1) := by decide +kernel
theorem dX10_look_112 : decode cX10_look 112 = .ok (.imul, 1) := by decide +kernel
theorem dX10_look_113 : decode cX10_look 113 = .ok (.iload 5, 2) := by decide +kernel
theorem dX10_look_115 : decode cX10_look 115 = .ok (.iadd, 1) := by decide +kernel
theorem dX10_look_116 : decode cX10_look 116 = .ok (.invokevirtual 126, 3) := by decide +kernel
theorem dX10_look_119 : decode cX10_look 119 = .ok (.iinc 5 1, 3) := by decide +kernel
theorem dX10_look_122 : decode cX10_look 122 = .ok (.goto (-58), 3) := by decide +kernel
theorem dX10_look_125 : decode cX10_look 125 = .ok (.iinc 4 (-1), 3) := by decide +kernel
theorem dX10_look_128 : decode cX10_look 128 = .ok (.goto (-76), 3) := by decide +kernel
theorem dX10_look_131 : decode cX10_look 131 = .ok (.iload_n 2, 1) := by decide +kernel
theorem dX10_look_132 : decode cX10_look 132 = .ok (.ifCond .ne 4, 3) := by decide +kernel
theorem dX10_look_135 : decode cX10_look 135 = .ok (.return_, 1) := by decide +kernel
theorem dX10_look_136 : decode cX10_look 136 = .ok (.aload_n 0, 1) := by decide +kernel
theorem dX10_look_137 : decode cX10_look 137 = .ok (.getfield 62, 3) := by decide +kernel
theorem dX10_look_140 : decode cX10_look 140 = .ok (.iload_n 1, 1) := by decide +kernel
theorem dX10_look_141 : decode cX10_look 141 = .ok (.iaload, 1) := by decide +kernel
theorem dX10_look_142 : decode cX10_look 142 = .ok (.istore 4, 2) := by decide +kernel
theorem dX10_look_144 : decode cX10_look 144 = .ok (.iload 4, 2) := by decide +kernel
theorem dX10_look_146 : decode cX10_look 146 = .ok (.iconst (-1), 1) := by decide +kernel
theorem dX10_look_147 : decode cX10_look 147 = .ok (.if_icmp .eq 54, 3) := by decide +kernel
theorem dX10_look_150 : decode cX10_look 150 = .ok (.aload_n 0, 1) := by decide +kernel
theorem dX10_look_151 : decode cX10_look 151 = .ok (.iload_n 3, 1) := by decide +kernel
theorem dX10_look_152 : decode cX10_look 152 = .ok (.iconst 1, 1) := by decide +kernel
theorem dX10_look_153 : decode cX10_look 153 = .ok (.iload 4, 2) := by decide +kernel
theorem dX10_look_155 : decode cX10_look 155 = .ok (.bipush 100, 2) := by decide +kernel
theorem dX10_look_157 : decode cX10_look 157 = .ok (.idiv, 1) := by decide +kernel
theorem dX10_look_158 : decode cX10_look 158 = .ok (.iload 4, 2) := by decide +kernel
theorem dX10_look_160 : decode cX10_look 160 = .ok (.bipush 100, 2) := by decide +kernel
theorem dX10_look_162 : decode cX10_look 162 = .ok (.irem, 1) := by decide +kernel
theorem dX10_look_163 : decode cX10_look 163 = .ok (.iconst 1, 1) := by decide +kernel
theorem dX10_look_164 : decode cX10_look 164 = .ok (.iload 4, 2) := by decide +kernel
theorem dX10_look_166 : decode cX10_look 166 = .ok (.bipush 100, 2) := by decide +kernel
theorem dX10_look_168 : decode cX10_look 168 = .ok (.idiv, 1) := by decide +kernel
theorem dX10_look_169 : decode cX10_look 169 = .ok (.iload 4, 2) := by decide +kernel
theorem dX10_look_171 : decode cX10_look 171 = .ok (.bipush 100, 2) := by decide +kernel
theorem dX10_look_173 : decode cX10_look 173 = .ok (.irem, 1) := by decide +kernel
theorem dX10_look_174 : decode cX10_look 174 = .ok (.invokestatic 122, 3) := by decide +kernel
theorem dX10_look_177 : decode cX10_look 177 = .ok (.aload_n 0, 1) := by decide +kernel
theorem dX10_look_178 : decode cX10_look 178 = .ok (.getfield 89, 3) := by decide +kernel
theorem dX10_look_181 : decode cX10_look 181 = .ok (.iadd, 1) := by decide +kernel
theorem dX10_look_182 : decode cX10_look 182 = .ok (.bipush 65, 2) := by decide +kernel
theorem dX10_look_184 : decode cX10_look 184 = .ok (.iload_n 1, 1) := by decide +kernel
theorem dX10_look_185 : decode cX10_look 185 = .ok (.iload 4, 2) := by decide +kernel
theorem dX10_look_187 : decode cX10_look 187 = .ok (.bipush 100, 2) := by decide +kernel
theorem dX10_look_189 : decode cX10_look 189 = .ok (.idiv, 1) := by decide +kernel
theorem dX10_look_190 : decode cX10_look 190 = .ok (.iadd, 1) := by decide +kernel
theorem dX10_look_191 : decode cX10_look 191 = .ok (.imul, 1) := by decide +kernel
theorem dX10_look_192 : decode cX10_look 192 = .ok (.iload 4, 2) := by decide +kernel
theorem dX10_look_194 : decode cX10_look 194 = .ok (.bipush 100, 2) := by decide +kernel
theorem dX10_look_196 : decode cX10_look 196 = .ok (.irem, 1) := by decide +kernel
theorem dX10_look_197 : decode cX10_look 197 = .ok (.iadd, 1) := by decide +kernel
theorem dX10_look_198 : decode cX10_look 198 = .ok (.invokevirtual 126, 3) := by decide +kernel
theorem dX10_look_201 : decode cX10_look 201 = .ok (.iload_n 2, 1) := by decide +kernel
theorem dX10_look_202 : decode cX10_look 202 = .ok (.iload_n 1, 1) := by decide +kernel
theorem dX10_look_203 : decode cX10_look 203 = .ok (.if_icmp .gt 60, 3) := by decide +kernel
theorem dX10_look_206 : decode cX10_look 206 = .ok (.aload_n 0, 1) := by decide +kernel
theorem dX10_look_207 : decode cX10_look 207 = .ok (.getfield 20, 3) := by decide +kernel
theorem dX10_look_210 : decode cX10_look 210 = .ok (.aload_n 0, 1) := by decide +kernel
theorem dX10_look_211 : decode cX10_look 211 = .ok (.getfield 59, 3) := by decide +kernel
theorem dX10_look_214 : decode cX10_look 214 = .ok (.iload_n 2, 1) := by decide +kernel
theorem dX10_look_215 : decode cX10_look 215 = .ok (.iaload, 1) := by decide +kernel
theorem dX10_look_216 : decode cX10_look 216 = .ok (.invokestatic 96, 3) := by decide +kernel
theorem dX10_look_219 : decode cX10_look 219 = .ok (.istore 5, 2) := by decide +kernel
theorem dX10_look_221 : decode cX10_look 221 = .ok (.iload 5, 2) := by decide +kernel
theorem dX10_look_223 : decode cX10_look 223 = .ok (.iconst 1, 1) := by decide +kernel
theorem dX10_look_224 : decode cX10_look 224 = .ok (.if_icmp .lt 39, 3) := by decide +kernel
theorem dX10_look_227 : decode cX10_look 227 = .ok (.aload_n 0, 1) := by decide +kernel
theorem dX10_look_228 : decode cX10_look 228 = .ok (.iload_n 3, 1) := by decide +kernel
theorem dX10_look_229 : decode cX10_look 229 = .ok (.iconst 2, 1) := by decide +kernel
theorem dX10_look_230 : decode cX10_look 230 = .ok (.iload 5, 2) := by decide +kernel
theorem dX10_look_232 : decode cX10_look 232 = .ok (.iload_n 2, 1) := by decide +kernel
theorem dX10_look_233 : decode cX10_look 233 = .ok (.iconst 2, 1) := by decide +kernel
theorem dX10_look_234 : decode cX10_look 234 = .ok (.iload 5, 2) := by decide +kernel
theorem dX10_look_236 : decode cX10_look 236 = .ok (.iconst 0, 1) := by decide +kernel
theorem dX10_look_237 : decode cX10_look 237 = .ok (.invokestatic 122, 3) := by decide +kernel
theorem dX10_look_240 : decode cX10_look 240 = .ok (.aload_n 0, 1) := by decide +kernel
theorem dX10_look_241 : decode cX10_look 241 = .ok (.getfield 89, 3) := by decide +kernel
theorem dX10_look_244 : decode cX10_look 244 = .ok (.iadd, 1) := by decide +kernel
theorem dX10_look_245 : decode cX10_look 245 = .ok (.bipush 65, 2) := by decide +kernel
theorem dX10_look_247 : decode cX10_look 247 = .ok (.iload_n 1, 1) := by decide +kernel
theorem dX10_look_248 : decode cX10_look 248 = .ok (.iload 5, 2) := by decide +kernel
theorem dX10_look_250 : decode cX10_look 250 = .ok (.iadd, 1) := by decide +kernel
theorem dX10_look_251 : decode cX10_look 251 = .ok (.imul, 1) := by decide +kernel
theorem dX10_look_252 : decode cX10_look 252 = .ok (.iload_n 2, 1) := by decide +kernel
theorem dX10_look_253 : decode cX10_look 253 = .ok (.iadd, 1) := by decide +kernel
theorem dX10_look_254 : decode cX10_look 254 = .ok (.invokevirtual 126, 3) := by decide +kernel
theorem dX10_look_257 : decode cX10_look 257 = .ok (.iinc 5 (-1), 3) := by decide +kernel
theorem dX10_look_260 : decode cX10_look 260 = .ok (.goto (-39), 3) := by decide +kernel
theorem dX10_look_263 : decode cX10_look 263 = .ok (.return_, 1) := by decide +kernel
set_option maxRecDepth 20000 in
theorem ggX10_findMatch_X10_farthest : GoodIn wsX10_findMatch wsX10_farthest := goodIn_r _ [17, 18, 3, 4, 5, 6, 25, 26, 27, 28, 29, 30, 31, 32, 33, 34, 35, 36, 37, 38, 39, 40, 41, 42, 43, 44, 45, 46, 47, 48, 49, 50, 51] (by decide +kernel) (by decide +kernel)
set_option maxRecDepth 20000 in
theorem gX10_findMatch_X10_farthest : GoodIn wsX10_findMatch (wsV RX10 101 RX10 yX10_farthest wsX10_farthest) := goodIn_app (goodIn_of _ (by decide +kernel)) ggX10_findMatch_X10_farthest
set_option maxRecDepth 20000 in
theorem ggX10_findMatch_X10_bitsOf : GoodIn wsX10_findMatch wsX10_bitsOf := goodIn_r _ [21, 22, 23, 16, 24] (by decide +kernel) (by decide +kernel)
set_option maxRecDepth 20000 in
theorem gX10_findMatch_X10_bitsOf : GoodIn wsX10_findMatch (va_wsS RX10 122 yX10_bitsOf wsX10_bitsOf) := goodIn_app (goodIn_of _ (by decide +kernel)) ggX10_findMatch_X10_bitsOf
theorem dX10_findMatch_0 : decode cX10_findMatch 0 = .ok (.iconst (-1), 1) := by decide +kernel
theorem dX10_findMatch_1 : decode cX10_findMatch 1 = .ok (.istore_n 2, 1) := by decide +kernel
theorem dX10_findMatch_2 : decode cX10_findMatch 2 = .ok (.iconst 0, 1) := by decide +kernel
theorem dX10_findMatch_3 : decode cX10_findMatch 3 = .ok (.istore_n 3, 1) := by decide +kernel
theorem dX10_findMatch_4 : decode cX10_findMatch 4 = .ok (.iconst 0, 1) := by decide +kernel
theorem dX10_findMatch_5 : decode cX10_findMatch 5 = .ok (.istore 4, 2) := by decide +kernel
theorem dX10_findMatch_7 : decode cX10_findMatch 7 = .ok (.aload_n 0, 1) := by decide +kernel
theorem dX10_findMatch_8 : decode cX10_findMatch 8 = .ok (.getfield 20, 3) := by decide +kernel
theorem dX10_findMatch_11 : decode cX10_findMatch 11 = .ok (.aload_n 0, 1) := by decide +kernel
theorem dX10_findMatch_12 : decode cX10_findMatch 12 = .ok (.getfield 68, 3) := by decide +kernel
theorem dX10_findMatch_15 : decode cX10_findMatch 15 = .ok (.iload_n 1, 1) := by decide +kernel
theorem dX10_findMatch_16 : decode cX10_findMatch 16 = .ok (.isub, 1) := by decide +kernel
theorem dX10_findMatch_17 : decode cX10_findMatch 17 = .ok (.invokestatic 96, 3) := by decide +kernel
theorem dX10_findMatch_20 : decode cX10_findMatch 20 = .ok (.istore 5, 2) := by decide +kernel
theorem dX10_findMatch_22 : decode cX10_findMatch 22 = .ok (.iload 5, 2) := by decide +kernel
theorem dX10_findMatch_24 : decode cX10_findMatch 24 = .ok (.aload_n 0, 1) := by decide +kernel
theorem dX10_findMatch_25 : decode cX10_findMatch 25 = .ok (.getfield 17, 3) := by decide +kernel
theorem dX10_findMatch_28 : decode cX10_findMatch 28 = .ok (.if_icmp .lt 132, 3) := by decide +kernel
theorem dX10_findMatch_31 : decode cX10_findMatch 31 = .ok (.iconst 1, 1) := by decide +kernel
theorem dX10_findMatch_32 : decode cX10_findMatch 32 = .ok (.istore 6, 2) := by decide +kernel
theorem dX10_findMatch_34 : decode cX10_findMatch 34 = .ok (.iload 6, 2) := by decide +kernel
theorem dX10_findMatch_36 : decode cX10_findMatch 36 = .ok (.aload_n 0, 1) := by decide +kernel
theorem dX10_findMatch_37 : decode cX10_findMatch 37 = .ok (.iload_n 1, 1) := by decide +kernel
theorem dX10_findMatch_38 : decode cX10_findMatch 38 = .ok (.invokevirtual 101, 3) := by decide +kernel
theorem dX10_findMatch_41 : decode cX10_findMatch 41 = .ok (.if_icmp .gt 113, 3) := by decide +kernel
theorem dX10_findMatch_44 : decode cX10_findMatch 44 = .ok (.aload_n 0, 1) := by decide +kernel
theorem dX10_findMatch_45 : decode cX10_findMatch 45 = .ok (.getfield 59, 3) := by decide +kernel
theorem dX10_findMatch_48 : decode cX10_findMatch 48 = .ok (.iload 6, 2) := by decide +kernel
theorem dX10_findMatch_50 : decode cX10_findMatch 50 = .ok (.iaload, 1) := by decide +kernel
theorem dX10_findMatch_51 : decode cX10_findMatch 51 = .ok (.iload 5, 2) := by decide +kernel
theorem dX10_findMatch_53 : decode cX10_findMatch 53 = .ok (.if_icmp .ge 6, 3) := by decide +kernel
theorem dX10_findMatch_56 : decode cX10_findMatch 56 = .ok (.goto 92, 3) := by decide +kernel
theorem dX10_findMatch_59 : decode cX10_findMatch 59 = .ok (.bipush 65, 2) := by decide +kernel
theorem dX10_findMatch_61 : decode cX10_findMatch 61 = .ok (.iload_n 1, 1) := by decide +kernel
theorem dX10_findMatch_62 : decode cX10_findMatch 62 = .ok (.iload 5, 2) := by decide +kernel
theorem dX10_findMatch_64 : decode cX10_findMatch 64 = .ok (.iadd, 1) := by decide +kernel
theorem dX10_findMatch_65 : decode cX10_findMatch 65 = .ok (.imul, 1) := by decide +kernel
theorem dX10_findMatch_66 : decode cX10_findMatch 66 = .ok (.iload 6, 2) := by decide +kernel
theorem dX10_findMatch_68 : decode cX10_findMatch 68 = .ok (.iadd, 1) := by decide +kernel
theorem dX10_findMatch_69 : decode cX10_findMatch 69 = .ok (.istore 7, 2) := by decide +kernel
theorem dX10_findMatch_71 : decode cX10_findMatch 71 = .ok (.iconst 1, 1) := by decide +kernel
theorem dX10_findMatch_72 : decode cX10_findMatch 72 = .ok (.iload 5, 2) := by decide +kernel
theorem dX10_findMatch_74 : decode cX10_findMatch 74 = .ok (.iload 6, 2) := by decide +kernel
theorem dX10_findMatch_76 : decode cX10_findMatch 76 = .ok (.invokestatic 122, 3) := by decide +kernel
theorem dX10_findMatch_79 : decode cX10_findMatch 79 = .ok (.aload_n 0, 1) := by decide +kernel
theorem dX10_findMatch_80 : decode cX10_findMatch 80 = .ok (.getfield 89, 3) := by decide +kernel
theorem dX10_findMatch_83 : decode cX10_findMatch 83 = .ok (.iadd, 1) := by decide +kernel
theorem dX10_findMatch_84 : decode cX10_findMatch 84 = .ok (.aload_n 0, 1) := by decide +kernel
theorem dX10_findMatch_85 : decode cX10_findMatch 85 = .ok (.getfield 44, 3) := by decide +kernel
theorem dX10_findMatch_88 : decode cX10_findMatch 88 = .ok (.iload 7, 2) := by decide +kernel
theorem dX10_findMatch_90 : decode cX10_findMatch 90 = .ok (.iaload, 1) := by decide +kernel
theorem dX10_findMatch_91 : decode cX10_findMatch 91 = .ok (.iadd, 1) := by decide +kernel
theorem dX10_findMatch_92 : decode cX10_findMatch 92 = .ok (.istore 8, 2) := by decide +kernel
theorem dX10_findMatch_94 : decode cX10_findMatch 94 = .ok (.iconst 1, 1) := by decide +kernel
theorem dX10_findMatch_95 : decode cX10_findMatch 95 = .ok (.aload_n 0, 1) := by decide +kernel
theorem dX10_findMatch_96 : decode cX10_findMatch 96 = .ok (.getfield 47, 3) := by decide +kernel
theorem dX10_findMatch_99 : decode cX10_findMatch 99 = .ok (.iload 7, 2) := by decide +kernel
theorem dX10_findMatch_101 : decode cX10_findMatch 101 = .ok (.iaload, 1) := by decide +kernel
theorem dX10_findMatch_102 : decode cX10_findMatch 102 = .ok (.iadd, 1) := by decide +kernel
theorem dX10_findMatch_103 : decode cX10_findMatch 103 = .ok (.istore 9, 2) := by decide +kernel
theorem dX10_findMatch_105 : decode cX10_findMatch 105 = .ok (.iload_n 2, 1) := by decide +kernel
theorem dX10_findMatch_106 : decode cX10_findMatch 106 = .ok (.iconst (-1), 1) := by decide +kernel
theorem dX10_findMatch_107 : decode cX10_findMatch 107 = .ok (.if_icmp .eq 25, 3) := by decide +kernel
theorem dX10_findMatch_110 : decode cX10_findMatch 110 = .ok (.iload 8, 2) := by decide +kernel
theorem dX10_findMatch_112 : decode cX10_findMatch 112 = .ok (.iload_n 3, 1) := by decide +kernel
theorem dX10_findMatch_113 : decode cX10_findMatch 113 = .ok (.if_icmp .gt 35, 3) := by decide +kernel
theorem dX10_findMatch_116 : decode cX10_findMatch 116 = .ok (.iload 8, 2) := by decide +kernel
theorem dX10_findMatch_118 : decode cX10_findMatch 118 = .ok (.iload_n 3, 1) := by decide +kernel
theorem dX10_findMatch_119 : decode cX10_findMatch 119 = .ok (.if_icmp .ne 13, 3) := by decide +kernel
theorem dX10_findMatch_122 : decode cX10_findMatch 122 = .ok (.iload 9, 2) := by decide +kernel
theorem dX10_findMatch_124 : decode cX10_findMatch 124 = .ok (.iload 4, 2) := by decide +kernel
theorem dX10_findMatch_126 : decode cX10_findMatch 126 = .ok (.if_icmp .lt 6, 3) := by decide +kernel
theorem dX10_findMatch_129 : decode cX10_findMatch 129 = .ok (.goto 19, 3) := by decide +kernel
theorem dX10_findMatch_132 : decode cX10_findMatch 132 = .ok (.bipush 100, 2) := by decide +kernel
theorem dX10_findMatch_134 : decode cX10_findMatch 134 = .ok (.iload 5, 2) := by decide +kernel
theorem dX10_findMatch_136 : decode cX10_findMatch 136 = .ok (.imul, 1) := by decide +kernel
theorem dX10_findMatch_137 : decode cX10_findMatch 137 = .ok (.iload 6, 2) := by decide +kernel
theorem dX10_findMatch_139 : decode cX10_findMatch 139 = .ok (.iadd, 1) := by decide +kernel
theorem dX10_findMatch_140 : decode cX10_findMatch 140 = .ok (.istore_n 2, 1) := by decide +kernel
theorem dX10_findMatch_141 : decode cX10_findMatch 141 = .ok (.iload 8, 2) := by decide +kernel
theorem dX10_findMatch_143 : decode cX10_findMatch 143 = .ok (.istore_n 3, 1) := by decide +kernel
theorem dX10_findMatch_144 : decode cX10_findMatch 144 = .ok (.iload 9, 2) := by decide +kernel
theorem dX10_findMatch_146 : decode cX10_findMatch 146 = .ok (.istore 4, 2) := by decide +kernel
theorem dX10_findMatch_148 : decode cX10_findMatch 148 = .ok (.iinc 6 1, 3) := by decide +kernel
theorem dX10_findMatch_151 : decode cX10_findMatch 151 = .ok (.goto (-117), 3) := by decide +kernel
theorem dX10_findMatch_154 : decode cX10_findMatch 154 = .ok (.iinc 5 (-1), 3) := by decide +kernel
theorem dX10_findMatch_157 : decode cX10_findMatch 157 = .ok (.goto (-135), 3) := by decide +kernel
theorem dX10_findMatch_160 : decode cX10_findMatch 160 = .ok (.aload_n 0, 1) := by decide +kernel
theorem dX10_findMatch_161 : decode cX10_findMatch 161 = .ok (.getfield 62, 3) := by decide +kernel
theorem dX10_findMatch_164 : decode cX10_findMatch 164 = .ok (.iload_n 1, 1) := by decide +kernel
theorem dX10_findMatch_165 : decode cX10_findMatch 165 = .ok (.iload_n 2, 1) := by decide +kernel
theorem dX10_findMatch_166 : decode cX10_findMatch 166 = .ok (.iastore, 1) := by decide +kernel
theorem dX10_findMatch_167 : decode cX10_findMatch 167 = .ok (.return_, 1) := by decide +kernel
set_option maxRecDepth 20000 in
theorem ggX10_best_X10_goesOn : GoodIn wsX10_best wsX10_goesOn := goodIn_r _ [15, 3, 16, 60, 61, 62, 63, 64, 65, 66, 67, 68, 69, 70, 71, 72, 73, 74, 75, 76, 77, 78, 79, 80, 81, 82, 83, 84, 85, 86] (by decide +kernel) (by decide +kernel)
set_option maxRecDepth 20000 in
theorem gX10_best_X10_goesOn : GoodIn wsX10_best (wsV RX10 92 RX10 yX10_goesOn wsX10_goesOn) := goodIn_app (goodIn_of _ (by decide +kernel)) ggX10_best_X10_goesOn
set_option maxRecDepth 20000 in
theorem ggX10_best_X10_findMatch : GoodIn wsX10_best wsX10_findMatch := goodIn_r _ [20, 21, 3, 22, 23, 24, 25, 26, 5, 27, 2, 4, 28, 29, 30, 31, 14, 32, 33, 34, 35, 36, 37, 38, 39, 60, 61, 62, 63, 64, 65, 66, 67, 68, 69, 70, 71, 72, 73, 74, 75, 76, 77, 78, 79, 80, 81, 82, 83, 84, 85, 86] (by decide +kernel) (by decide +kernel)
set_option maxRecDepth 20000 in
theorem gX10_best_X10_findMatch : GoodIn wsX10_best (wsV RX10 130 RX10 yX10_findMatch wsX10_findMatch) := goodIn_app (goodIn_of _ (by decide +kernel)) ggX10_best_X10_findMatch
set_option maxRecDepth 20000 in
theorem ggX10_best_X10_look : GoodIn wsX10_best wsX10_look := goodIn_r _ [43, 2, 27, 21, 3, 22, 23, 24, 25, 26, 5, 28, 44, 45, 46, 14, 47, 4, 7, 8, 9, 29, 30, 31, 32, 33, 34, 35, 36, 37, 38, 39, 60, 61, 62, 63, 64, 65, 66, 67, 68, 69, 70, 71, 72, 73, 74, 75, 76, 77, 78, 79, 80, 81, 82, 83, 84, 85, 86] (by decide +kernel) (by decide +kernel)
set_option maxRecDepth 20000 in
theorem gX10_best_X10_look : GoodIn wsX10_best (wsV RX10 134 RX10 yX10_look wsX10_look) := goodIn_app (goodIn_of _ (by decide +kernel)) ggX10_best_X10_look
set_option maxRecDepth 20000 in
theorem ggX10_best_X10_put : GoodIn wsX10_best wsX10_put := goodIn_r _ [51, 52, 6, 53, 54, 55, 60, 61, 62, 63, 64, 65, 66, 67, 68, 69, 70, 71, 72, 73, 74, 75, 76, 77, 78, 79, 80, 81, 82, 83, 84, 85, 86] (by decide +kernel) (by decide +kernel)
set_option maxRecDepth 20000 in
theorem gX10_best_X10_put : GoodIn wsX10_best (wsV RX10 138 RX10 yX10_put wsX10_put) := goodIn_app (goodIn_of _ (by decide +kernel)) ggX10_best_X10_put
set_option maxRecDepth 20000 in
theorem ggX10_best_X10_sum : GoodIn wsX10_best wsX10_sum := goodIn_r _ [59, 6, 52, 54, 55, 27, 34, 35, 14, 36, 37, 38, 39, 60, 61, 62, 63, 64, 65, 66, 67, 68, 69, 70, 71, 72, 73, 74, 75, 76, 77, 78, 79, 80, 81, 82, 83, 84, 85, 86] (by decide +kernel) (by decide +kernel)
set_option maxRecDepth 20000 in
theorem gX10_best_X10_sum : GoodIn wsX10_best (wsV RX10 142 RX10 yX10_sum wsX10_sum) := goodIn_app (goodIn_of _ (by decide +kernel)) ggX10_best_X10_sum
theorem dX10_best_0 : decode cX10_best 0 = .ok (.aload_n 0, 1) := by decide +kernel
theorem dX10_best_1 : decode cX10_best 1 = .ok (.iconst 0, 1) := by decide +kernel
theorem dX10_best_2 : decode cX10_best 2 = .ok (.putfield 65, 3) := by decide +kernel
theorem dX10_best_5 : decode cX10_best 5 = .ok (.iconst 0, 1) := by decide +kernel
theorem dX10_best_6 : decode cX10_best 6 = .ok (.istore_n 1, 1) := by decide +kernel
theorem dX10_best_7 : decode cX10_best 7 = .ok (.iload_n 1, 1) := by decide +kernel
theorem dX10_best_8 : decode cX10_best 8 = .ok (.bipush 65, 2) := by decide +kernel
theorem dX10_best_10 : decode cX10_best 10 = .ok (.if_icmp .ge 39, 3) := by decide +kernel
theorem dX10_best_13 : decode cX10_best 13 = .ok (.aload_n 0, 1) := by decide +kernel
theorem dX10_best_14 : decode cX10_best 14 = .ok (.getfield 44, 3) := by decide +kernel
theorem dX10_best_17 : decode cX10_best 17 = .ok (.bipush 65, 2) := by decide +kernel
theorem dX10_best_19 : decode cX10_best 19 = .ok (.aload_n 0, 1) := by decide +kernel
theorem dX10_best_20 : decode cX10_best 20 = .ok (.getfield 68, 3) := by decide +kernel
theorem dX10_best_23 : decode cX10_best 23 = .ok (.imul, 1) := by decide +kernel
theorem dX10_best_24 : decode cX10_best 24 = .ok (.iload_n 1, 1) := by decide +kernel
theorem dX10_best_25 : decode cX10_best 25 = .ok (.iadd, 1) := by decide +kernel
theorem dX10_best_26 : decode cX10_best 26 = .ok (.iconst 0, 1) := by decide +kernel
theorem dX10_best_27 : decode cX10_best 27 = .ok (.iastore, 1) := by decide +kernel
theorem dX10_best_28 : decode cX10_best 28 = .ok (.aload_n 0, 1) := by decide +kernel
theorem dX10_best_29 : decode cX10_best 29 = .ok (.getfield 47, 3) := by decide +kernel
theorem dX10_best_32 : decode cX10_best 32 = .ok (.bipush 65, 2) := by decide +kernel
theorem dX10_best_34 : decode cX10_best 34 = .ok (.aload_n 0, 1) := by decide +kernel
theorem dX10_best_35 : decode cX10_best 35 = .ok (.getfield 68, 3) := by decide +kernel
theorem dX10_best_38 : decode cX10_best 38 = .ok (.imul, 1) := by decide +kernel
theorem dX10_best_39 : decode cX10_best 39 = .ok (.iload_n 1, 1) := by decide +kernel
theorem dX10_best_40 : decode cX10_best 40 = .ok (.iadd, 1) := by decide +kernel
theorem dX10_best_41 : decode cX10_best 41 = .ok (.iconst 0, 1) := by decide +kernel
theorem dX10_best_42 : decode cX10_best 42 = .ok (.iastore, 1) := by decide +kernel
theorem dX10_best_43 : decode cX10_best 43 = .ok (.iinc 1 1, 3) := by decide +kernel
theorem dX10_best_46 : decode cX10_best 46 = .ok (.goto (-39), 3) := by decide +kernel
theorem dX10_best_49 : decode cX10_best 49 = .ok (.aload_n 0, 1) := by decide +kernel
theorem dX10_best_50 : decode cX10_best 50 = .ok (.getfield 68, 3) := by decide +kernel
theorem dX10_best_53 : decode cX10_best 53 = .ok (.iconst 1, 1) := by decide +kernel
theorem dX10_best_54 : decode cX10_best 54 = .ok (.isub, 1) := by decide +kernel
theorem dX10_best_55 : decode cX10_best 55 = .ok (.istore_n 1, 1) := by decide +kernel
theorem dX10_best_56 : decode cX10_best 56 = .ok (.iload_n 1, 1) := by decide +kernel
theorem dX10_best_57 : decode cX10_best 57 = .ok (.ifCond .lt 59, 3) := by decide +kernel
theorem dX10_best_60 : decode cX10_best 60 = .ok (.iconst 1, 1) := by decide +kernel
theorem dX10_best_61 : decode cX10_best 61 = .ok (.istore_n 2, 1) := by decide +kernel
theorem dX10_best_62 : decode cX10_best 62 = .ok (.iload_n 2, 1) := by decide +kernel
theorem dX10_best_63 : decode cX10_best 63 = .ok (.iload_n 1, 1) := by decide +kernel
theorem dX10_best_64 : decode cX10_best 64 = .ok (.if_icmp .gt 21, 3) := by decide +kernel
theorem dX10_best_67 : decode cX10_best 67 = .ok (.aload_n 0, 1) := by decide +kernel
theorem dX10_best_68 : decode cX10_best 68 = .ok (.getfield 59, 3) := by decide +kernel
theorem dX10_best_71 : decode cX10_best 71 = .ok (.iload_n 2, 1) := by decide +kernel
theorem dX10_best_72 : decode cX10_best 72 = .ok (.aload_n 0, 1) := by decide +kernel
theorem dX10_best_73 : decode cX10_best 73 = .ok (.iload_n 1, 1) := by decide +kernel
theorem dX10_best_74 : decode cX10_best 74 = .ok (.iload_n 2, 1) := by decide +kernel
theorem dX10_best_75 : decode cX10_best 75 = .ok (.invokevirtual 92, 3) := by decide +kernel
theorem dX10_best_78 : decode cX10_best 78 = .ok (.iastore, 1) := by decide +kernel
theorem dX10_best_79 : decode cX10_best 79 = .ok (.iinc 2 1, 3) := by decide +kernel
theorem dX10_best_82 : decode cX10_best 82 = .ok (.goto (-20), 3) := by decide +kernel
theorem dX10_best_85 : decode cX10_best 85 = .ok (.aload_n 0, 1) := by decide +kernel
theorem dX10_best_86 : decode cX10_best 86 = .ok (.iload_n 1, 1) := by decide +kernel
theorem dX10_best_87 : decode cX10_best 87 = .ok (.invokevirtual 130, 3) := by decide +kernel
theorem dX10_best_90 : decode cX10_best 90 = .ok (.iconst 0, 1) := by decide +kernel
theorem dX10_best_91 : decode cX10_best 91 = .ok (.istore_n 2, 1) := by decide +kernel
theorem dX10_best_92 : decode cX10_best 92 = .ok (.iload_n 2, 1) := by decide +kernel
theorem dX10_best_93 : decode cX10_best 93 = .ok (.bipush 65, 2) := by decide +kernel
theorem dX10_best_95 : decode cX10_best 95 = .ok (.if_icmp .ge 15, 3) := by decide +kernel
theorem dX10_best_98 : decode cX10_best 98 = .ok (.aload_n 0, 1) := by decide +kernel
theorem dX10_best_99 : decode cX10_best 99 = .ok (.iload_n 1, 1) := by decide +kernel
theorem dX10_best_100 : decode cX10_best 100 = .ok (.iload_n 2, 1) := by decide +kernel
theorem dX10_best_101 : decode cX10_best 101 = .ok (.invokevirtual 134, 3) := by decide +kernel
theorem dX10_best_104 : decode cX10_best 104 = .ok (.iinc 2 1, 3) := by decide +kernel
theorem dX10_best_107 : decode cX10_best 107 = .ok (.goto (-15), 3) := by decide +kernel
theorem dX10_best_110 : decode cX10_best 110 = .ok (.iinc 1 (-1), 3) := by decide +kernel
theorem dX10_best_113 : decode cX10_best 113 = .ok (.goto (-57), 3) := by decide +kernel
theorem dX10_best_116 : decode cX10_best 116 = .ok (.aload_n 0, 1) := by decide +kernel
theorem dX10_best_117 : decode cX10_best 117 = .ok (.iconst 0, 1) := by decide +kernel
theorem dX10_best_118 : decode cX10_best 118 = .ok (.putfield 119, 3) := by decide +kernel
theorem dX10_best_121 : decode cX10_best 121 = .ok (.iconst 0, 1) := by decide +kernel
theorem dX10_best_122 : decode cX10_best 122 = .ok (.istore_n 1, 1) := by decide +kernel
theorem dX10_best_123 : decode cX10_best 123 = .ok (.iconst 0, 1) := by decide +kernel
theorem dX10_best_124 : decode cX10_best 124 = .ok (.istore_n 2, 1) := by decide +kernel
theorem dX10_best_125 : decode cX10_best 125 = .ok (.iload_n 2, 1) := by decide +kernel
theorem dX10_best_126 : decode cX10_best 126 = .ok (.aload_n 0, 1) := by decide +kernel
theorem dX10_best_127 : decode cX10_best 127 = .ok (.getfield 68, 3) := by decide +kernel
theorem dX10_best_130 : decode cX10_best 130 = .ok (.if_icmp .ge 61, 3) := by decide +kernel
theorem dX10_best_133 : decode cX10_best 133 = .ok (.bipush 65, 2) := by decide +kernel
theorem dX10_best_135 : decode cX10_best 135 = .ok (.iload_n 2, 1) := by decide +kernel
theorem dX10_best_136 : decode cX10_best 136 = .ok (.imul, 1) := by decide +kernel
theorem dX10_best_137 : decode cX10_best 137 = .ok (.iload_n 1, 1) := by decide +kernel
theorem dX10_best_138 : decode cX10_best 138 = .ok (.iadd, 1) := by decide +kernel
theorem dX10_best_139 : decode cX10_best 139 = .ok (.istore_n 3, 1) := by decide +kernel
theorem dX10_best_140 : decode cX10_best 140 = .ok (.aload_n 0, 1) := by decide +kernel
theorem dX10_best_141 : decode cX10_best 141 = .ok (.aload_n 0, 1) := by decide +kernel
theorem dX10_best_142 : decode cX10_best 142 = .ok (.getfield 50, 3) := by decide +kernel
theorem dX10_best_145 : decode cX10_best 145 = .ok (.iload_n 3, 1) := by decide +kernel
theorem dX10_best_146 : decode cX10_best 146 = .ok (.iaload, 1) := by decide +kernel
theorem dX10_best_147 : decode cX10_best 147 = .ok (.iload_n 2, 1) := by decide +kernel
theorem dX10_best_148 : decode cX10_best 148 = .ok (.aload_n 0, 1) := by decide +kernel
theorem dX10_best_149 : decode cX10_best 149 = .ok (.getfield 53, 3) := by decide +kernel
theorem dX10_best_152 : decode cX10_best 152 = .ok (.iload_n 3, 1) := by decide +kernel
theorem dX10_best_153 : decode cX10_best 153 = .ok (.iaload, 1) := by decide +kernel
theorem dX10_best_154 : decode cX10_best 154 = .ok (.aload_n 0, 1) := by decide +kernel
theorem dX10_best_155 : decode cX10_best 155 = .ok (.getfield 56, 3) := by decide +kernel
theorem dX10_best_158 : decode cX10_best 158 = .ok (.iload_n 3, 1) := by decide +kernel
theorem dX10_best_159 : decode cX10_best 159 = .ok (.iaload, 1) := by decide +kernel
theorem dX10_best_160 : decode cX10_best 160 = .ok (.invokevirtual 138, 3) := by decide +kernel
theorem dX10_best_163 : decode cX10_best 163 = .ok (.iload_n 2, 1) := by decide +kernel
theorem dX10_best_164 : decode cX10_best 164 = .ok (.aload_n 0, 1) := by decide +kernel
theorem dX10_best_165 : decode cX10_best 165 = .ok (.getfield 53, 3) := by decide +kernel
theorem dX10_best_168 : decode cX10_best 168 = .ok (.iload_n 3, 1) := by decide +kernel
theorem dX10_best_169 : decode cX10_best 169 = .ok (.iaload, 1) := by decide +kernel
theorem dX10_best_170 : decode cX10_best 170 = .ok (.iadd, 1) := by decide +kernel
theorem dX10_best_171 : decode cX10_best 171 = .ok (.istore_n 2, 1) := by decide +kernel
theorem dX10_best_172 : decode cX10_best 172 = .ok (.aload_n 0, 1) := by decide +kernel
theorem dX10_best_173 : decode cX10_best 173 = .ok (.getfield 50, 3) := by decide +kernel
theorem dX10_best_176 : decode cX10_best 176 = .ok (.iload_n 3, 1) := by decide +kernel
theorem dX10_best_177 : decode cX10_best 177 = .ok (.iaload, 1) := by decide +kernel
theorem dX10_best_178 : decode cX10_best 178 = .ok (.ifCond .eq 10, 3) := by decide +kernel
theorem dX10_best_181 : decode cX10_best 181 = .ok (.aload_n 0, 1) := by decide +kernel
theorem dX10_best_182 : decode cX10_best 182 = .ok (.getfield 56, 3) := by decide +kernel
theorem dX10_best_185 : decode cX10_best 185 = .ok (.iload_n 3, 1) := by decide +kernel
theorem dX10_best_186 : decode cX10_best 186 = .ok (.iaload, 1) := by decide +kernel
theorem dX10_best_187 : decode cX10_best 187 = .ok (.istore_n 1, 1) := by decide +kernel
theorem dX10_best_188 : decode cX10_best 188 = .ok (.goto (-63), 3) := by decide +kernel
theorem dX10_best_191 : decode cX10_best 191 = .ok (.aload_n 0, 1) := by decide +kernel
theorem dX10_best_192 : decode cX10_best 192 = .ok (.iconst 1, 1) := by decide +kernel
theorem dX10_best_193 : decode cX10_best 193 = .ok (.putfield 81, 3) := by decide +kernel
theorem dX10_best_196 : decode cX10_best 196 = .ok (.aload_n 0, 1) := by decide +kernel
theorem dX10_best_197 : decode cX10_best 197 = .ok (.invokevirtual 142, 3) := by decide +kernel
theorem dX10_best_200 : decode cX10_best 200 = .ok (.ireturn, 1) := by decide +kernel
set_option maxRecDepth 20000 in
theorem ggX10_againAt_X10_goesOn : GoodIn wsX10_againAt wsX10_goesOn := goodIn_r _ [10, 11, 12, 13, 14, 15, 16, 17, 18, 19, 20, 21, 22, 23, 24, 25, 26, 27, 28, 29, 30, 31, 32, 33, 34, 35, 36, 37, 38, 39] (by decide +kernel) (by decide +kernel)
set_option maxRecDepth 20000 in
theorem gX10_againAt_X10_goesOn : GoodIn wsX10_againAt (wsV RX10 92 RX10 yX10_goesOn wsX10_goesOn) := goodIn_app (goodIn_of _ (by decide +kernel)) ggX10_againAt_X10_goesOn
theorem dX10_againAt_0 : decode cX10_againAt 0 = .ok (.iload_n 2, 1) := by decide +kernel
theorem dX10_againAt_1 : decode cX10_againAt 1 = .ok (.ifCond .ne 7, 3) := by decide +kernel
theorem dX10_againAt_4 : decode cX10_againAt 4 = .ok (.iconst 0, 1) := by decide +kernel
theorem dX10_againAt_5 : decode cX10_againAt 5 = .ok (.goto 16, 3) := by decide +kernel
theorem dX10_againAt_8 : decode cX10_againAt 8 = .ok (.aload_n 0, 1) := by decide +kernel
theorem dX10_againAt_9 : decode cX10_againAt 9 = .ok (.iload_n 1, 1) := by decide +kernel
theorem dX10_againAt_10 : decode cX10_againAt 10 = .ok (.iload_n 2, 1) := by decide +kernel
theorem dX10_againAt_11 : decode cX10_againAt 11 = .ok (.invokevirtual 92, 3) := by decide +kernel
theorem dX10_againAt_14 : decode cX10_againAt 14 = .ok (.aload_n 0, 1) := by decide +kernel
theorem dX10_againAt_15 : decode cX10_againAt 15 = .ok (.getfield 20, 3) := by decide +kernel
theorem dX10_againAt_18 : decode cX10_againAt 18 = .ok (.invokestatic 96, 3) := by decide +kernel
theorem dX10_againAt_21 : decode cX10_againAt 21 = .ok (.ireturn, 1) := by decide +kernel
set_option maxRecDepth 20000 in
theorem ggX10_taken_X10_againAt : GoodIn wsX10_taken wsX10_againAt := goodIn_r _ [10, 11, 12, 13, 4, 14, 15, 16, 17, 9, 18, 1, 19, 34, 35, 36, 37, 38, 39, 40, 41, 42, 43, 44, 45, 46, 47, 48, 49, 50, 51, 52, 53, 54, 55, 56, 57, 58, 59, 60] (by decide +kernel) (by decide +kernel)
set_option maxRecDepth 20000 in
theorem gX10_taken_X10_againAt : GoodIn wsX10_taken (wsV RX10 146 RX10 yX10_againAt wsX10_againAt) := goodIn_app (goodIn_of _ (by decide +kernel)) ggX10_taken_X10_againAt
set_option maxRecDepth 20000 in
theorem ggX10_taken_X10_longestAt : GoodIn wsX10_taken wsX10_longestAt := goodIn_r _ [23, 2, 3, 4, 5, 24, 25, 26, 9, 27, 28, 12, 13, 14, 29, 30, 31, 32, 11, 33, 15, 16, 17, 18, 1, 19, 34, 35, 36, 37, 38, 39, 40, 41, 42, 43, 44, 45, 46, 47, 48, 49, 50, 51, 52, 53, 54, 55, 56, 57, 58, 59, 60] (by decide +kernel) (by decide +kernel)
set_option maxRecDepth 20000 in
theorem gX10_taken_X10_longestAt : GoodIn wsX10_taken (wsV RX10 110 RX10 yX10_longestAt wsX10_longestAt) := goodIn_app (goodIn_of _ (by decide +kernel)) ggX10_taken_X10_longestAt
theorem dX10_taken_0 : decode cX10_taken 0 = .ok (.iload_n 1, 1) := by decide +kernel
theorem dX10_taken_1 : decode cX10_taken 1 = .ok (.aload_n 0, 1) := by decide +kernel
theorem dX10_taken_2 : decode cX10_taken 2 = .ok (.getfield 68, 3) := by decide +kernel
theorem dX10_taken_5 : decode cX10_taken 5 = .ok (.if_icmp .ne 7, 3) := by decide +kernel
theorem dX10_taken_8 : decode cX10_taken 8 = .ok (.iconst 0, 1) := by decide +kernel
theorem dX10_taken_9 : decode cX10_taken 9 = .ok (.goto 17, 3) := by decide +kernel
theorem dX10_taken_12 : decode cX10_taken 12 = .ok (.aload_n 0, 1) := by decide +kernel
theorem dX10_taken_13 : decode cX10_taken 13 = .ok (.iload_n 1, 1) := by decide +kernel
theorem dX10_taken_14 : decode cX10_taken 14 = .ok (.iload_n 2, 1) := by decide +kernel
theorem dX10_taken_15 : decode cX10_taken 15 = .ok (.invokevirtual 146, 3) := by decide +kernel
theorem dX10_taken_18 : decode cX10_taken 18 = .ok (.aload_n 0, 1) := by decide +kernel
theorem dX10_taken_19 : decode cX10_taken 19 = .ok (.iload_n 1, 1) := by decide +kernel
theorem dX10_taken_20 : decode cX10_taken 20 = .ok (.invokevirtual 110, 3) := by decide +kernel
theorem dX10_taken_23 : decode cX10_taken 23 = .ok (.invokestatic 107, 3) := by decide +kernel
theorem dX10_taken_26 : decode cX10_taken 26 = .ok (.ireturn, 1) := by decide +kernel
set_option maxRecDepth 20000 in
theorem ggX10_goThrough_X10_againAt : GoodIn wsX10_goThrough wsX10_againAt := goodIn_r _ [10, 11, 12, 13, 14, 15, 16, 17, 18, 9, 19, 3, 20, 64, 65, 66, 67, 68, 69, 70, 71, 72, 73, 74, 75, 76, 77, 78, 79, 80, 81, 82, 83, 84, 85, 86, 87, 88, 89, 90] (by decide +kernel) (by decide +kernel)
set_option maxRecDepth 20000 in
theorem gX10_goThrough_X10_againAt : GoodIn wsX10_goThrough (wsV RX10 146 RX10 yX10_againAt wsX10_againAt) := goodIn_app (goodIn_of _ (by decide +kernel)) ggX10_goThrough_X10_againAt
set_option maxRecDepth 20000 in
theorem ggX10_goThrough_X10_longestAt : GoodIn wsX10_goThrough wsX10_longestAt := goodIn_r _ [24, 25, 26, 14, 27, 28, 29, 30, 9, 31, 32, 12, 13, 15, 33, 34, 35, 36, 11, 37, 16, 17, 18, 19, 3, 20, 64, 65, 66, 67, 68, 69, 70, 71, 72, 73, 74, 75, 76, 77, 78, 79, 80, 81, 82, 83, 84, 85, 86, 87, 88, 89, 90] (by decide +kernel) (by decide +kernel)
set_option maxRecDepth 20000 in
theorem gX10_goThrough_X10_longestAt : GoodIn wsX10_goThrough (wsV RX10 110 RX10 yX10_longestAt wsX10_longestAt) := goodIn_app (goodIn_of _ (by decide +kernel)) ggX10_goThrough_X10_longestAt
set_option maxRecDepth 20000 in
theorem ggX10_goThrough_X10_put : GoodIn wsX10_goThrough wsX10_put := goodIn_r _ [41, 42, 2, 43, 4, 44, 64, 65, 66, 67, 68, 69, 70, 71, 72, 73, 74, 75, 76, 77, 78, 79, 80, 81, 82, 83, 84, 85, 86, 87, 88, 89, 90] (by decide +kernel) (by decide +kernel)
set_option maxRecDepth 20000 in
theorem gX10_goThrough_X10_put : GoodIn wsX10_goThrough (wsV RX10 138 RX10 yX10_put wsX10_put) := goodIn_app (goodIn_of _ (by decide +kernel)) ggX10_goThrough_X10_put
set_option maxRecDepth 20000 in
theorem ggX10_goThrough_X10_taken : GoodIn wsX10_goThrough wsX10_taken := goodIn_r _ [48, 3, 25, 26, 14, 27, 6, 7, 8, 9, 10, 11, 12, 13, 15, 16, 17, 18, 19, 20, 21, 22, 23, 24, 28, 29, 30, 31, 32, 33, 34, 35, 36, 37, 64, 65, 66, 67, 68, 69, 70, 71, 72, 73, 74, 75, 76, 77, 78, 79, 80, 81, 82, 83, 84, 85, 86, 87, 88, 89, 90] (by decide +kernel) (by decide +kernel)
set_option maxRecDepth 20000 in
theorem gX10_goThrough_X10_taken : GoodIn wsX10_goThrough (wsV RX10 149 RX10 yX10_taken wsX10_taken) := goodIn_app (goodIn_of _ (by decide +kernel)) ggX10_goThrough_X10_taken
set_option maxRecDepth 20000 in
theorem ggX10_goThrough_X10_nearestAt : GoodIn wsX10_goThrough wsX10_nearestAt := goodIn_r _ [52, 21, 22, 23, 9, 24, 25, 26, 14, 27, 28, 29, 30, 31, 32, 12, 13, 15, 33, 34, 35, 36, 11, 37, 16, 17, 18, 19, 3, 20, 64, 65, 66, 67, 68, 69, 70, 71, 72, 73, 74, 75, 76, 77, 78, 79, 80, 81, 82, 83, 84, 85, 86, 87, 88, 89, 90] (by decide +kernel) (by decide +kernel)
set_option maxRecDepth 20000 in
theorem gX10_goThrough_X10_nearestAt : GoodIn wsX10_goThrough (wsV RX10 113 RX10 yX10_nearestAt wsX10_nearestAt) := goodIn_app (goodIn_of _ (by decide +kernel)) ggX10_goThrough_X10_nearestAt
set_option maxRecDepth 20000 in
theorem ggX10_goThrough_X10_sum : GoodIn wsX10_goThrough wsX10_sum := goodIn_r _ [56, 2, 42, 4, 44, 57, 58, 59, 9, 60, 61, 62, 63, 64, 65, 66, 67, 68, 69, 70, 71, 72, 73, 74, 75, 76, 77, 78, 79, 80, 81, 82, 83, 84, 85, 86, 87, 88, 89, 90] (by decide +kernel) (by decide +kernel)
set_option maxRecDepth 20000 in
theorem gX10_goThrough_X10_sum : GoodIn wsX10_goThrough (wsV RX10 142 RX10 yX10_sum wsX10_sum) := goodIn_app (goodIn_of _ (by decide +kernel)) ggX10_goThrough_X10_sum
theorem dX10_goThrough_0 : decode cX10_goThrough 0 = .ok (.aload_n 0, 1) := by decide +kernel
theorem dX10_goThrough_1 : decode cX10_goThrough 1 = .ok (.iconst 0, 1) := by decide +kernel
theorem dX10_goThrough_2 : decode cX10_goThrough 2 = .ok (.putfield 65, 3) := by decide +kernel
theorem dX10_goThrough_5 : decode cX10_goThrough 5 = .ok (.aload_n 0, 1) := by decide +kernel
theorem dX10_goThrough_6 : decode cX10_goThrough 6 = .ok (.iconst 0, 1) := by decide +kernel
theorem dX10_goThrough_7 : decode cX10_goThrough 7 = .ok (.putfield 119, 3) := by decide +kernel
theorem dX10_goThrough_10 : decode cX10_goThrough 10 = .ok (.iconst 0, 1) := by decide +kernel
theorem dX10_goThrough_11 : decode cX10_goThrough 11 = .ok (.istore_n 2, 1) := by decide +kernel
theorem dX10_goThrough_12 : decode cX10_goThrough 12 = .ok (.iconst 0, 1) := by decide +kernel
theorem dX10_goThrough_13 : decode cX10_goThrough 13 = .ok (.istore_n 3, 1) := by decide +kernel
theorem dX10_goThrough_14 : decode cX10_goThrough 14 = .ok (.iload_n 3, 1) := by decide +kernel
theorem dX10_goThrough_15 : decode cX10_goThrough 15 = .ok (.aload_n 0, 1) := by decide +kernel
theorem dX10_goThrough_16 : decode cX10_goThrough 16 = .ok (.getfield 68, 3) := by decide +kernel
theorem dX10_goThrough_19 : decode cX10_goThrough 19 = .ok (.if_icmp .ge 107, 3) := by decide +kernel
theorem dX10_goThrough_22 : decode cX10_goThrough 22 = .ok (.aload_n 0, 1) := by decide +kernel
theorem dX10_goThrough_23 : decode cX10_goThrough 23 = .ok (.iload_n 3, 1) := by decide +kernel
theorem dX10_goThrough_24 : decode cX10_goThrough 24 = .ok (.iload_n 2, 1) := by decide +kernel
theorem dX10_goThrough_25 : decode cX10_goThrough 25 = .ok (.invokevirtual 146, 3) := by decide +kernel
theorem dX10_goThrough_28 : decode cX10_goThrough 28 = .ok (.istore 4, 2) := by decide +kernel
theorem dX10_goThrough_30 : decode cX10_goThrough 30 = .ok (.aload_n 0, 1) := by decide +kernel
theorem dX10_goThrough_31 : decode cX10_goThrough 31 = .ok (.iload_n 3, 1) := by decide +kernel
theorem dX10_goThrough_32 : decode cX10_goThrough 32 = .ok (.invokevirtual 110, 3) := by decide +kernel
theorem dX10_goThrough_35 : decode cX10_goThrough 35 = .ok (.istore 5, 2) := by decide +kernel
theorem dX10_goThrough_37 : decode cX10_goThrough 37 = .ok (.iload 4, 2) := by decide +kernel
theorem dX10_goThrough_39 : decode cX10_goThrough 39 = .ok (.iload 5, 2) := by decide +kernel
theorem dX10_goThrough_41 : decode cX10_goThrough 41 = .ok (.if_icmp .lt 20, 3) := by decide +kernel
theorem dX10_goThrough_44 : decode cX10_goThrough 44 = .ok (.iload 4, 2) := by decide +kernel
theorem dX10_goThrough_46 : decode cX10_goThrough 46 = .ok (.ifCond .le 15, 3) := by decide +kernel
theorem dX10_goThrough_49 : decode cX10_goThrough 49 = .ok (.aload_n 0, 1) := by decide +kernel
theorem dX10_goThrough_50 : decode cX10_goThrough 50 = .ok (.iconst 2, 1) := by decide +kernel
theorem dX10_goThrough_51 : decode cX10_goThrough 51 = .ok (.iload_n 3, 1) := by decide +kernel
theorem dX10_goThrough_52 : decode cX10_goThrough 52 = .ok (.iload 4, 2) := by decide +kernel
theorem dX10_goThrough_54 : decode cX10_goThrough 54 = .ok (.iload_n 2, 1) := by decide +kernel
theorem dX10_goThrough_55 : decode cX10_goThrough 55 = .ok (.invokevirtual 138, 3) := by decide +kernel
theorem dX10_goThrough_58 : decode cX10_goThrough 58 = .ok (.goto 51, 3) := by decide +kernel
theorem dX10_goThrough_61 : decode cX10_goThrough 61 = .ok (.iload 5, 2) := by decide +kernel
theorem dX10_goThrough_63 : decode cX10_goThrough 63 = .ok (.ifCond .eq 20, 3) := by decide +kernel
theorem dX10_goThrough_66 : decode cX10_goThrough 66 = .ok (.iload_n 1, 1) := by decide +kernel
theorem dX10_goThrough_67 : decode cX10_goThrough 67 = .ok (.ifCond .eq 27, 3) := by decide +kernel
theorem dX10_goThrough_70 : decode cX10_goThrough 70 = .ok (.aload_n 0, 1) := by decide +kernel
theorem dX10_goThrough_71 : decode cX10_goThrough 71 = .ok (.iload_n 3, 1) := by decide +kernel
theorem dX10_goThrough_72 : decode cX10_goThrough 72 = .ok (.iconst 1, 1) := by decide +kernel
theorem dX10_goThrough_73 : decode cX10_goThrough 73 = .ok (.iadd, 1) := by decide +kernel
theorem dX10_goThrough_74 : decode cX10_goThrough 74 = .ok (.iload_n 2, 1) := by decide +kernel
theorem dX10_goThrough_75 : decode cX10_goThrough 75 = .ok (.invokevirtual 149, 3) := by decide +kernel
theorem dX10_goThrough_78 : decode cX10_goThrough 78 = .ok (.iload 5, 2) := by decide +kernel
theorem dX10_goThrough_80 : decode cX10_goThrough 80 = .ok (.if_icmp .le 14, 3) := by decide +kernel
theorem dX10_goThrough_83 : decode cX10_goThrough 83 = .ok (.aload_n 0, 1) := by decide +kernel
theorem dX10_goThrough_84 : decode cX10_goThrough 84 = .ok (.iconst 0, 1) := by decide +kernel
theorem dX10_goThrough_85 : decode cX10_goThrough 85 = .ok (.iload_n 3, 1) := by decide +kernel
theorem dX10_goThrough_86 : decode cX10_goThrough 86 = .ok (.iconst 1, 1) := by decide +kernel
theorem dX10_goThrough_87 : decode cX10_goThrough 87 = .ok (.iconst 0, 1) := by decide +kernel
theorem dX10_goThrough_88 : decode cX10_goThrough 88 = .ok (.invokevirtual 138, 3) := by decide +kernel
theorem dX10_goThrough_91 : decode cX10_goThrough 91 = .ok (.goto 18, 3) := by decide +kernel
theorem dX10_goThrough_94 : decode cX10_goThrough 94 = .ok (.aload_n 0, 1) := by decide +kernel
theorem dX10_goThrough_95 : decode cX10_goThrough 95 = .ok (.iload_n 3, 1) := by decide +kernel
theorem dX10_goThrough_96 : decode cX10_goThrough 96 = .ok (.invokevirtual 113, 3) := by decide +kernel
theorem dX10_goThrough_99 : decode cX10_goThrough 99 = .ok (.istore_n 2, 1) := by decide +kernel
theorem dX10_goThrough_100 : decode cX10_goThrough 100 = .ok (.aload_n 0, 1) := by decide +kernel
theorem dX10_goThrough_101 : decode cX10_goThrough 101 = .ok (.iconst 1, 1) := by decide +kernel
theorem dX10_goThrough_102 : decode cX10_goThrough 102 = .ok (.iload_n 3, 1) := by decide +kernel
theorem dX10_goThrough_103 : decode cX10_goThrough 103 = .ok (.iload 5, 2) := by decide +kernel
theorem dX10_goThrough_105 : decode cX10_goThrough 105 = .ok (.iload_n 2, 1) := by decide +kernel
theorem dX10_goThrough_106 : decode cX10_goThrough 106 = .ok (.invokevirtual 138, 3) := by decide +kernel
theorem dX10_goThrough_109 : decode cX10_goThrough 109 = .ok (.iload_n 3, 1) := by decide +kernel
theorem dX10_goThrough_110 : decode cX10_goThrough 110 = .ok (.aload_n 0, 1) := by decide +kernel
theorem dX10_goThrough_111 : decode cX10_goThrough 111 = .ok (.getfield 26, 3) := by decide +kernel
theorem dX10_goThrough_114 : decode cX10_goThrough 114 = .ok (.aload_n 0, 1) := by decide +kernel
theorem dX10_goThrough_115 : decode cX10_goThrough 115 = .ok (.getfield 119, 3) := by decide +kernel
theorem dX10_goThrough_118 : decode cX10_goThrough 118 = .ok (.iconst 1, 1) := by decide +kernel
theorem dX10_goThrough_119 : decode cX10_goThrough 119 = .ok (.isub, 1) := by decide +kernel
theorem dX10_goThrough_120 : decode cX10_goThrough 120 = .ok (.iaload, 1) := by decide +kernel
theorem dX10_goThrough_121 : decode cX10_goThrough 121 = .ok (.iadd, 1) := by decide +kernel
theorem dX10_goThrough_122 : decode cX10_goThrough 122 = .ok (.istore_n 3, 1) := by decide +kernel
theorem dX10_goThrough_123 : decode cX10_goThrough 123 = .ok (.goto (-109), 3) := by decide +kernel
theorem dX10_goThrough_126 : decode cX10_goThrough 126 = .ok (.aload_n 0, 1) := by decide +kernel
theorem dX10_goThrough_127 : decode cX10_goThrough 127 = .ok (.iconst 1, 1) := by decide +kernel
theorem dX10_goThrough_128 : decode cX10_goThrough 128 = .ok (.putfield 81, 3) := by decide +kernel
theorem dX10_goThrough_131 : decode cX10_goThrough 131 = .ok (.aload_n 0, 1) := by decide +kernel
theorem dX10_goThrough_132 : decode cX10_goThrough 132 = .ok (.invokevirtual 142, 3) := by decide +kernel
theorem dX10_goThrough_135 : decode cX10_goThrough 135 = .ok (.ireturn, 1) := by decide +kernel
set_option maxRecDepth 20000 in
theorem ggX10_greedy_X10_goThrough : GoodIn wsX10_greedy wsX10_goThrough := goodIn_r _ [5, 6, 7, 8, 9, 10, 11, 12, 13, 4, 14, 15, 16, 17, 18, 19, 20, 21, 22, 23, 24, 25, 26, 27, 28, 29, 30, 31, 32, 33, 34, 35, 36, 37, 38, 39, 40, 41, 42, 43, 44, 45, 46, 47, 48, 49, 50, 51, 52, 53, 54, 55, 56, 57, 58, 59, 60, 61, 62, 63, 64, 65, 66, 67, 68, 69, 70, 71, 72, 73, 74, 75, 76, 77, 78, 79, 80, 81, 82, 83, 84, 85, 86, 87, 88, 89, 90, 91, 92, 93, 94] (by decide +kernel) (by decide +kernel)
set_option maxRecDepth 20000 in
theorem gX10_greedy_X10_goThrough : GoodIn wsX10_greedy (wsV RX10 152 RX10 yX10_goThrough wsX10_goThrough) := goodIn_app (goodIn_of _ (by decide +kernel)) ggX10_greedy_X10_goThrough
theorem dX10_greedy_0 : decode cX10_greedy 0 = .ok (.aload_n 0, 1) := by decide +kernel
theorem dX10_greedy_1 : decode cX10_greedy 1 = .ok (.iconst 0, 1) := by decide +kernel
theorem dX10_greedy_2 : decode cX10_greedy 2 = .ok (.invokevirtual 152, 3) := by decide +kernel
theorem dX10_greedy_5 : decode cX10_greedy 5 = .ok (.ireturn, 1) := by decide +kernel
set_option maxRecDepth 20000 in
theorem ggX10_lazy_X10_goThrough : GoodIn wsX10_lazy wsX10_goThrough := goodIn_r _ [5, 6, 7, 8, 9, 10, 11, 12, 13, 4, 14, 15, 16, 17, 18, 19, 20, 21, 22, 23, 24, 25, 26, 27, 28, 29, 30, 31, 32, 33, 34, 35, 36, 37, 38, 39, 40, 41, 42, 43, 44, 45, 46, 47, 48, 49, 50, 51, 52, 53, 54, 55, 56, 57, 58, 59, 60, 61, 62, 63, 64, 65, 66, 67, 68, 69, 70, 71, 72, 73, 74, 75, 76, 77, 78, 79, 80, 81, 82, 83, 84, 85, 86, 87, 88, 89, 90, 91, 92, 93, 94] (by decide +kernel) (by decide +kernel)
set_option maxRecDepth 20000 in
theorem gX10_lazy_X10_goThrough : GoodIn wsX10_lazy (wsV RX10 152 RX10 yX10_goThrough wsX10_goThrough) := goodIn_app (goodIn_of _ (by decide +kernel)) ggX10_lazy_X10_goThrough
theorem dX10_lazy_0 : decode cX10_lazy 0 = .ok (.aload_n 0, 1) := by decide +kernel
theorem dX10_lazy_1 : decode cX10_lazy 1 = .ok (.iconst 1, 1) := by decide +kernel
theorem dX10_lazy_2 : decode cX10_lazy 2 = .ok (.invokevirtual 152, 3) := by decide +kernel
theorem dX10_lazy_5 : decode cX10_lazy 5 = .ok (.ireturn, 1) := by decide +kernel
theorem dX10_hasPlan_0 : decode cX10_hasPlan 0 = .ok (.aload_n 0, 1) := by decide +kernel
theorem dX10_hasPlan_1 : decode cX10_hasPlan 1 = .ok (.iconst 0, 1) := by decide +kernel
theorem dX10_hasPlan_2 : decode cX10_hasPlan 2 = .ok (.putfield 65, 3) := by decide +kernel
theorem dX10_hasPlan_5 : decode cX10_hasPlan 5 = .ok (.aload_n 0, 1) := by decide +kernel
theorem dX10_hasPlan_6 : decode cX10_hasPlan 6 = .ok (.getfield 81, 3) := by decide +kernel
theorem dX10_hasPlan_9 : decode cX10_hasPlan 9 = .ok (.ireturn, 1) := by decide +kernel
theorem dX10_asks_0 : decode cX10_asks 0 = .ok (.aload_n 0, 1) := by decide +kernel
theorem dX10_asks_1 : decode cX10_asks 1 = .ok (.aload_n 0, 1) := by decide +kernel
theorem dX10_asks_2 : decode cX10_asks 2 = .ok (.getfield 81, 3) := by decide +kernel
theorem dX10_asks_5 : decode cX10_asks 5 = .ok (.ifCond .ne 7, 3) := by decide +kernel
theorem dX10_asks_8 : decode cX10_asks 8 = .ok (.iconst 1, 1) := by decide +kernel
theorem dX10_asks_9 : decode cX10_asks 9 = .ok (.goto 17, 3) := by decide +kernel
theorem dX10_asks_12 : decode cX10_asks 12 = .ok (.iload_n 1, 1) := by decide +kernel
theorem dX10_asks_13 : decode cX10_asks 13 = .ok (.ifCond .lt 8, 3) := by decide +kernel
theorem dX10_asks_16 : decode cX10_asks 16 = .ok (.iload_n 1, 1) := by decide +kernel
theorem dX10_asks_17 : decode cX10_asks 17 = .ok (.iload_n 2, 1) := by decide +kernel
theorem dX10_asks_18 : decode cX10_asks 18 = .ok (.if_icmp .lt 7, 3) := by decide +kernel
theorem dX10_asks_21 : decode cX10_asks 21 = .ok (.iconst 2, 1) := by decide +kernel
theorem dX10_asks_22 : decode cX10_asks 22 = .ok (.goto 4, 3) := by decide +kernel
theorem dX10_asks_25 : decode cX10_asks 25 = .ok (.iconst 0, 1) := by decide +kernel
theorem dX10_asks_26 : decode cX10_asks 26 = .ok (.putfield 65, 3) := by decide +kernel
theorem dX10_asks_29 : decode cX10_asks 29 = .ok (.aload_n 0, 1) := by decide +kernel
theorem dX10_asks_30 : decode cX10_asks 30 = .ok (.getfield 65, 3) := by decide +kernel
theorem dX10_asks_33 : decode cX10_asks 33 = .ok (.ifCond .ne 7, 3) := by decide +kernel
theorem dX10_asks_36 : decode cX10_asks 36 = .ok (.iconst 1, 1) := by decide +kernel
theorem dX10_asks_37 : decode cX10_asks 37 = .ok (.goto 4, 3) := by decide +kernel
theorem dX10_asks_40 : decode cX10_asks 40 = .ok (.iconst 0, 1) := by decide +kernel
theorem dX10_asks_41 : decode cX10_asks 41 = .ok (.ireturn, 1) := by decide +kernel
theorem dX10_tokenCount_0 : decode cX10_tokenCount 0 = .ok (.aload_n 0, 1) := by decide +kernel
theorem dX10_tokenCount_1 : decode cX10_tokenCount 1 = .ok (.aload_n 0, 1) := by decide +kernel
theorem dX10_tokenCount_2 : decode cX10_tokenCount 2 = .ok (.getfield 81, 3) := by decide +kernel
theorem dX10_tokenCount_5 : decode cX10_tokenCount 5 = .ok (.ifCond .eq 7, 3) := by decide +kernel
theorem dX10_tokenCount_8 : decode cX10_tokenCount 8 = .ok (.iconst 0, 1) := by decide +kernel
theorem dX10_tokenCount_9 : decode cX10_tokenCount 9 = .ok (.goto 4, 3) := by decide +kernel
theorem dX10_tokenCount_12 : decode cX10_tokenCount 12 = .ok (.iconst 1, 1) := by decide +kernel
theorem dX10_tokenCount_13 : decode cX10_tokenCount 13 = .ok (.putfield 65, 3) := by decide +kernel
theorem dX10_tokenCount_16 : decode cX10_tokenCount 16 = .ok (.aload_n 0, 1) := by decide +kernel
theorem dX10_tokenCount_17 : decode cX10_tokenCount 17 = .ok (.getfield 81, 3) := by decide +kernel
theorem dX10_tokenCount_20 : decode cX10_tokenCount 20 = .ok (.ifCond .eq 10, 3) := by decide +kernel
theorem dX10_tokenCount_23 : decode cX10_tokenCount 23 = .ok (.aload_n 0, 1) := by decide +kernel
theorem dX10_tokenCount_24 : decode cX10_tokenCount 24 = .ok (.getfield 119, 3) := by decide +kernel
theorem dX10_tokenCount_27 : decode cX10_tokenCount 27 = .ok (.goto 4, 3) := by decide +kernel
theorem dX10_tokenCount_30 : decode cX10_tokenCount 30 = .ok (.iconst 0, 1) := by decide +kernel
theorem dX10_tokenCount_31 : decode cX10_tokenCount 31 = .ok (.ireturn, 1) := by decide +kernel
set_option maxRecDepth 20000 in
theorem ggX10_kind_X10_asks : GoodIn wsX10_kind wsX10_asks := goodIn_r _ [7, 8, 9, 10, 11, 12, 13, 14, 15, 16, 17, 18, 19, 20, 21, 22, 23, 24, 25, 26, 27, 28, 29, 30, 31, 32, 33, 34, 35, 36] (by decide +kernel) (by decide +kernel)
set_option maxRecDepth 20000 in
theorem gX10_kind_X10_asks : GoodIn wsX10_kind (wsV RX10 156 RX10 yX10_asks wsX10_asks) := goodIn_app (goodIn_of _ (by decide +kernel)) ggX10_kind_X10_asks
theorem dX10_kind_0 : decode cX10_kind 0 = .ok (.aload_n 0, 1) := by decide +kernel
theorem dX10_kind_1 : decode cX10_kind 1 = .ok (.iload_n 1, 1) := by decide +kernel
theorem dX10_kind_2 : decode cX10_kind 2 = .ok (.aload_n 0, 1) := by decide +kernel
theorem dX10_kind_3 : decode cX10_kind 3 = .ok (.getfield 119, 3) := by decide +kernel
theorem dX10_kind_6 : decode cX10_kind 6 = .ok (.invokevirtual 156, 3) := by decide +kernel
theorem dX10_kind_9 : decode cX10_kind 9 = .ok (.ifCond .eq 12, 3) := by decide +kernel
theorem dX10_kind_12 : decode cX10_kind 12 = .ok (.aload_n 0, 1) := by decide +kernel
theorem dX10_kind_13 : decode cX10_kind 13 = .ok (.getfield 23, 3) := by decide +kernel
theorem dX10_kind_16 : decode cX10_kind 16 = .ok (.iload_n 1, 1) := by decide +kernel
theorem dX10_kind_17 : decode cX10_kind 17 = .ok (.iaload, 1) := by decide +kernel
theorem dX10_kind_18 : decode cX10_kind 18 = .ok (.goto 4, 3) := by decide +kernel
theorem dX10_kind_21 : decode cX10_kind 21 = .ok (.iconst 0, 1) := by decide +kernel
theorem dX10_kind_22 : decode cX10_kind 22 = .ok (.ireturn, 1) := by decide +kernel
set_option maxRecDepth 20000 in
theorem ggX10_length_X10_asks : GoodIn wsX10_length wsX10_asks := goodIn_r _ [7, 8, 9, 10, 11, 12, 13, 14, 15, 16, 17, 18, 19, 20, 21, 22, 23, 24, 25, 26, 27, 28, 29, 30, 31, 32, 33, 34, 35, 36] (by decide +kernel) (by decide +kernel)
set_option maxRecDepth 20000 in
theorem gX10_length_X10_asks : GoodIn wsX10_length (wsV RX10 156 RX10 yX10_asks wsX10_asks) := goodIn_app (goodIn_of _ (by decide +kernel)) ggX10_length_X10_asks
theorem dX10_length_0 : decode cX10_length 0 = .ok (.aload_n 0, 1) := by decide +kernel
theorem dX10_length_1 : decode cX10_length 1 = .ok (.iload_n 1, 1) := by decide +kernel
theorem dX10_length_2 : decode cX10_length 2 = .ok (.aload_n 0, 1) := by decide +kernel
theorem dX10_length_3 : decode cX10_length 3 = .ok (.getfield 119, 3) := by decide +kernel
theorem dX10_length_6 : decode cX10_length 6 = .ok (.invokevirtual 156, 3) := by decide +kernel
theorem dX10_length_9 : decode cX10_length 9 = .ok (.ifCond .eq 12, 3) := by decide +kernel
theorem dX10_length_12 : decode cX10_length 12 = .ok (.aload_n 0, 1) := by decide +kernel
theorem dX10_length_13 : decode cX10_length 13 = .ok (.getfield 26, 3) := by decide +kernel
theorem dX10_length_16 : decode cX10_length 16 = .ok (.iload_n 1, 1) := by decide +kernel
theorem dX10_length_17 : decode cX10_length 17 = .ok (.iaload, 1) := by decide +kernel
theorem dX10_length_18 : decode cX10_length 18 = .ok (.goto 4, 3) := by decide +kernel
theorem dX10_length_21 : decode cX10_length 21 = .ok (.iconst 0, 1) := by decide +kernel
theorem dX10_length_22 : decode cX10_length 22 = .ok (.ireturn, 1) := by decide +kernel
set_option maxRecDepth 20000 in
theorem ggX10_distance_X10_asks : GoodIn wsX10_distance wsX10_asks := goodIn_r _ [7, 8, 9, 10, 11, 12, 13, 14, 15, 16, 17, 18, 19, 20, 21, 22, 23, 24, 25, 26, 27, 28, 29, 30, 31, 32, 33, 34, 35, 36] (by decide +kernel) (by decide +kernel)
set_option maxRecDepth 20000 in
theorem gX10_distance_X10_asks : GoodIn wsX10_distance (wsV RX10 156 RX10 yX10_asks wsX10_asks) := goodIn_app (goodIn_of _ (by decide +kernel)) ggX10_distance_X10_asks
theorem dX10_distance_0 : decode cX10_distance 0 = .ok (.aload_n 0, 1) := by decide +kernel
theorem dX10_distance_1 : decode cX10_distance 1 = .ok (.iload_n 1, 1) := by decide +kernel
theorem dX10_distance_2 : decode cX10_distance 2 = .ok (.aload_n 0, 1) := by decide +kernel
theorem dX10_distance_3 : decode cX10_distance 3 = .ok (.getfield 119, 3) := by decide +kernel
theorem dX10_distance_6 : decode cX10_distance 6 = .ok (.invokevirtual 156, 3) := by decide +kernel
theorem dX10_distance_9 : decode cX10_distance 9 = .ok (.ifCond .eq 12, 3) := by decide +kernel
theorem dX10_distance_12 : decode cX10_distance 12 = .ok (.aload_n 0, 1) := by decide +kernel
theorem dX10_distance_13 : decode cX10_distance 13 = .ok (.getfield 29, 3) := by decide +kernel
theorem dX10_distance_16 : decode cX10_distance 16 = .ok (.iload_n 1, 1) := by decide +kernel
theorem dX10_distance_17 : decode cX10_distance 17 = .ok (.iaload, 1) := by decide +kernel
theorem dX10_distance_18 : decode cX10_distance 18 = .ok (.goto 4, 3) := by decide +kernel
theorem dX10_distance_21 : decode cX10_distance 21 = .ok (.iconst 0, 1) := by decide +kernel
theorem dX10_distance_22 : decode cX10_distance 22 = .ok (.ireturn, 1) := by decide +kernel
set_option maxRecDepth 20000 in
theorem ggX10_start_X10_asks : GoodIn wsX10_start wsX10_asks := goodIn_r _ [7, 8, 9, 10, 11, 12, 13, 14, 15, 16, 17, 18, 19, 20, 21, 22, 23, 24, 25, 26, 27, 28, 29, 30, 31, 32, 33, 34, 35, 36] (by decide +kernel) (by decide +kernel)
set_option maxRecDepth 20000 in
theorem gX10_start_X10_asks : GoodIn wsX10_start (wsV RX10 156 RX10 yX10_asks wsX10_asks) := goodIn_app (goodIn_of _ (by decide +kernel)) ggX10_start_X10_asks
theorem dX10_start_0 : decode cX10_start 0 = .ok (.aload_n 0, 1) := by decide +kernel
theorem dX10_start_1 : decode cX10_start 1 = .ok (.iload_n 1, 1) := by decide +kernel
theorem dX10_start_2 : decode cX10_start 2 = .ok (.aload_n 0, 1) := by decide +kernel
theorem dX10_start_3 : decode cX10_start 3 = .ok (.getfield 119, 3) := by decide +kernel
theorem dX10_start_6 : decode cX10_start 6 = .ok (.invokevirtual 156, 3) := by decide +kernel
theorem dX10_start_9 : decode cX10_start 9 = .ok (.ifCond .eq 12, 3) := by decide +kernel
theorem dX10_start_12 : decode cX10_start 12 = .ok (.aload_n 0, 1) := by decide +kernel
theorem dX10_start_13 : decode cX10_start 13 = .ok (.getfield 32, 3) := by decide +kernel
theorem dX10_start_16 : decode cX10_start 16 = .ok (.iload_n 1, 1) := by decide +kernel
theorem dX10_start_17 : decode cX10_start 17 = .ok (.iaload, 1) := by decide +kernel
theorem dX10_start_18 : decode cX10_start 18 = .ok (.goto 4, 3) := by decide +kernel
theorem dX10_start_21 : decode cX10_start 21 = .ok (.iconst 0, 1) := by decide +kernel
theorem dX10_start_22 : decode cX10_start 22 = .ok (.ireturn, 1) := by decide +kernel
set_option maxRecDepth 20000 in
theorem ggX10_made_X10_asks : GoodIn wsX10_made wsX10_asks := goodIn_r _ [8, 9, 10, 11, 12, 13, 14, 15, 16, 17, 18, 19, 20, 21, 22, 23, 24, 25, 26, 27, 28, 29, 30, 31, 32, 33, 34, 35, 36, 37] (by decide +kernel) (by decide +kernel)
set_option maxRecDepth 20000 in
theorem gX10_made_X10_asks : GoodIn wsX10_made (wsV RX10 156 RX10 yX10_asks wsX10_asks) := goodIn_app (goodIn_of _ (by decide +kernel)) ggX10_made_X10_asks
theorem dX10_made_0 : decode cX10_made 0 = .ok (.iconst 0, 1) := by decide +kernel
theorem dX10_made_1 : decode cX10_made 1 = .ok (.istore_n 2, 1) := by decide +kernel
theorem dX10_made_2 : decode cX10_made 2 = .ok (.aload_n 0, 1) := by decide +kernel
theorem dX10_made_3 : decode cX10_made 3 = .ok (.iload_n 1, 1) := by decide +kernel
theorem dX10_made_4 : decode cX10_made 4 = .ok (.iconst 3, 1) := by decide +kernel
theorem dX10_made_5 : decode cX10_made 5 = .ok (.invokevirtual 156, 3) := by decide +kernel
theorem dX10_made_8 : decode cX10_made 8 = .ok (.ifCond .ne 5, 3) := by decide +kernel
theorem dX10_made_11 : decode cX10_made 11 = .ok (.iconst 0, 1) := by decide +kernel
theorem dX10_made_12 : decode cX10_made 12 = .ok (.ireturn, 1) := by decide +kernel
theorem dX10_made_13 : decode cX10_made 13 = .ok (.iconst 0, 1) := by decide +kernel
theorem dX10_made_14 : decode cX10_made 14 = .ok (.istore_n 3, 1) := by decide +kernel
theorem dX10_made_15 : decode cX10_made 15 = .ok (.iload_n 3, 1) := by decide +kernel
theorem dX10_made_16 : decode cX10_made 16 = .ok (.aload_n 0, 1) := by decide +kernel
theorem dX10_made_17 : decode cX10_made 17 = .ok (.getfield 119, 3) := by decide +kernel
theorem dX10_made_20 : decode cX10_made 20 = .ok (.if_icmp .ge 32, 3) := by decide +kernel
theorem dX10_made_23 : decode cX10_made 23 = .ok (.iload_n 2, 1) := by decide +kernel
theorem dX10_made_24 : decode cX10_made 24 = .ok (.aload_n 0, 1) := by decide +kernel
theorem dX10_made_25 : decode cX10_made 25 = .ok (.getfield 23, 3) := by decide +kernel
theorem dX10_made_28 : decode cX10_made 28 = .ok (.iload_n 3, 1) := by decide +kernel
theorem dX10_made_29 : decode cX10_made 29 = .ok (.iaload, 1) := by decide +kernel
theorem dX10_made_30 : decode cX10_made 30 = .ok (.iload_n 1, 1) := by decide +kernel
theorem dX10_made_31 : decode cX10_made 31 = .ok (.if_icmp .ne 12, 3) := by decide +kernel
theorem dX10_made_34 : decode cX10_made 34 = .ok (.aload_n 0, 1) := by decide +kernel
theorem dX10_made_35 : decode cX10_made 35 = .ok (.getfield 26, 3) := by decide +kernel
theorem dX10_made_38 : decode cX10_made 38 = .ok (.iload_n 3, 1) := by decide +kernel
theorem dX10_made_39 : decode cX10_made 39 = .ok (.iaload, 1) := by decide +kernel
theorem dX10_made_40 : decode cX10_made 40 = .ok (.goto 4, 3) := by decide +kernel
theorem dX10_made_43 : decode cX10_made 43 = .ok (.iconst 0, 1) := by decide +kernel
theorem dX10_made_44 : decode cX10_made 44 = .ok (.iadd, 1) := by decide +kernel
theorem dX10_made_45 : decode cX10_made 45 = .ok (.istore_n 2, 1) := by decide +kernel
theorem dX10_made_46 : decode cX10_made 46 = .ok (.iinc 3 1, 3) := by decide +kernel
theorem dX10_made_49 : decode cX10_made 49 = .ok (.goto (-34), 3) := by decide +kernel
theorem dX10_made_52 : decode cX10_made 52 = .ok (.iload_n 2, 1) := by decide +kernel
theorem dX10_made_53 : decode cX10_made 53 = .ok (.ireturn, 1) := by decide +kernel
set_option maxRecDepth 20000 in
theorem ggX10_ratio_X10_sum : GoodIn wsX10_ratio wsX10_sum := goodIn_r _ [10, 5, 11, 12, 13, 4, 14, 15, 9, 16, 17, 18, 19, 20, 21, 22, 23, 24, 25, 26, 27, 28, 29, 30, 31, 32, 33, 34, 35, 36, 37, 38, 39, 40, 41, 42, 43, 44, 45, 46] (by decide +kernel) (by decide +kernel)
set_option maxRecDepth 20000 in
theorem gX10_ratio_X10_sum : GoodIn wsX10_ratio (wsV RX10 142 RX10 yX10_sum wsX10_sum) := goodIn_app (goodIn_of _ (by decide +kernel)) ggX10_ratio_X10_sum
theorem dX10_ratio_0 : decode cX10_ratio 0 = .ok (.aload_n 0, 1) := by decide +kernel
theorem dX10_ratio_1 : decode cX10_ratio 1 = .ok (.aload_n 0, 1) := by decide +kernel
theorem dX10_ratio_2 : decode cX10_ratio 2 = .ok (.getfield 81, 3) := by decide +kernel
theorem dX10_ratio_5 : decode cX10_ratio 5 = .ok (.ifCond .eq 7, 3) := by decide +kernel
theorem dX10_ratio_8 : decode cX10_ratio 8 = .ok (.iconst 0, 1) := by decide +kernel
theorem dX10_ratio_9 : decode cX10_ratio 9 = .ok (.goto 4, 3) := by decide +kernel
theorem dX10_ratio_12 : decode cX10_ratio 12 = .ok (.iconst 1, 1) := by decide +kernel
theorem dX10_ratio_13 : decode cX10_ratio 13 = .ok (.putfield 65, 3) := by decide +kernel
theorem dX10_ratio_16 : decode cX10_ratio 16 = .ok (.aload_n 0, 1) := by decide +kernel
theorem dX10_ratio_17 : decode cX10_ratio 17 = .ok (.getfield 65, 3) := by decide +kernel
theorem dX10_ratio_20 : decode cX10_ratio 20 = .ok (.ifCond .ne 10, 3) := by decide +kernel
theorem dX10_ratio_23 : decode cX10_ratio 23 = .ok (.aload_n 0, 1) := by decide +kernel
theorem dX10_ratio_24 : decode cX10_ratio 24 = .ok (.getfield 68, 3) := by decide +kernel
theorem dX10_ratio_27 : decode cX10_ratio 27 = .ok (.ifCond .ne 5, 3) := by decide +kernel
theorem dX10_ratio_30 : decode cX10_ratio 30 = .ok (.dconst 0, 1) := by decide +kernel
theorem dX10_ratio_31 : decode cX10_ratio 31 = .ok (.dreturn, 1) := by decide +kernel
theorem dX10_ratio_32 : decode cX10_ratio 32 = .ok (.aload_n 0, 1) := by decide +kernel
theorem dX10_ratio_33 : decode cX10_ratio 33 = .ok (.invokevirtual 142, 3) := by decide +kernel
theorem dX10_ratio_36 : decode cX10_ratio 36 = .ok (.aload_n 0, 1) := by decide +kernel
theorem dX10_ratio_37 : decode cX10_ratio 37 = .ok (.getfield 89, 3) := by decide +kernel
theorem dX10_ratio_40 : decode cX10_ratio 40 = .ok (.aload_n 0, 1) := by decide +kernel
theorem dX10_ratio_41 : decode cX10_ratio 41 = .ok (.getfield 119, 3) := by decide +kernel
theorem dX10_ratio_44 : decode cX10_ratio 44 = .ok (.imul, 1) := by decide +kernel
theorem dX10_ratio_45 : decode cX10_ratio 45 = .ok (.isub, 1) := by decide +kernel
theorem dX10_ratio_46 : decode cX10_ratio 46 = .ok (.i2d, 1) := by decide +kernel
theorem dX10_ratio_47 : decode cX10_ratio 47 = .ok (.bipush 8, 2) := by decide +kernel
theorem dX10_ratio_49 : decode cX10_ratio 49 = .ok (.aload_n 0, 1) := by decide +kernel
theorem dX10_ratio_50 : decode cX10_ratio 50 = .ok (.getfield 68, 3) := by decide +kernel
theorem dX10_ratio_53 : decode cX10_ratio 53 = .ok (.imul, 1) := by decide +kernel
theorem dX10_ratio_54 : decode cX10_ratio 54 = .ok (.i2d, 1) := by decide +kernel
theorem dX10_ratio_55 : decode cX10_ratio 55 = .ok (.ddiv, 1) := by decide +kernel
theorem dX10_ratio_56 : decode cX10_ratio 56 = .ok (.dreturn, 1) := by decide +kernel
theorem dX10_putBits_0 : decode cX10_putBits 0 = .ok (.iload_n 2, 1) := by decide +kernel
theorem dX10_putBits_1 : decode cX10_putBits 1 = .ok (.iconst 1, 1) := by decide +kernel
theorem dX10_putBits_2 : decode cX10_putBits 2 = .ok (.isub, 1) := by decide +kernel
theorem dX10_putBits_3 : decode cX10_putBits 3 = .ok (.istore_n 3, 1) := by decide +kernel
theorem dX10_putBits_4 : decode cX10_putBits 4 = .ok (.iload_n 3, 1) := by decide +kernel
theorem dX10_putBits_5 : decode cX10_putBits 5 = .ok (.ifCond .lt 33, 3) := by decide +kernel
theorem dX10_putBits_8 : decode cX10_putBits 8 = .ok (.aload_n 0, 1) := by decide +kernel
theorem dX10_putBits_9 : decode cX10_putBits 9 = .ok (.getfield 35, 3) := by decide +kernel
theorem dX10_putBits_12 : decode cX10_putBits 12 = .ok (.aload_n 0, 1) := by decide +kernel
theorem dX10_putBits_13 : decode cX10_putBits 13 = .ok (.getfield 160, 3) := by decide +kernel
theorem dX10_putBits_16 : decode cX10_putBits 16 = .ok (.iload_n 1, 1) := by decide +kernel
theorem dX10_putBits_17 : decode cX10_putBits 17 = .ok (.iload_n 3, 1) := by decide +kernel
theorem dX10_putBits_18 : decode cX10_putBits 18 = .ok (.ishr, 1) := by decide +kernel
theorem dX10_putBits_19 : decode cX10_putBits 19 = .ok (.iconst 1, 1) := by decide +kernel
theorem dX10_putBits_20 : decode cX10_putBits 20 = .ok (.iand, 1) := by decide +kernel
theorem dX10_putBits_21 : decode cX10_putBits 21 = .ok (.iastore, 1) := by decide +kernel
theorem dX10_putBits_22 : decode cX10_putBits 22 = .ok (.aload_n 0, 1) := by decide +kernel
theorem dX10_putBits_23 : decode cX10_putBits 23 = .ok (.dup, 1) := by decide +kernel
theorem dX10_putBits_24 : decode cX10_putBits 24 = .ok (.getfield 160, 3) := by decide +kernel
theorem dX10_putBits_27 : decode cX10_putBits 27 = .ok (.iconst 1, 1) := by decide +kernel
theorem dX10_putBits_28 : decode cX10_putBits 28 = .ok (.iadd, 1) := by decide +kernel
theorem dX10_putBits_29 : decode cX10_putBits 29 = .ok (.putfield 160, 3) := by decide +kernel
theorem dX10_putBits_32 : decode cX10_putBits 32 = .ok (.iinc 3 (-1), 3) := by decide +kernel
theorem dX10_putBits_35 : decode cX10_putBits 35 = .ok (.goto (-31), 3) := by decide +kernel
theorem dX10_putBits_38 : decode cX10_putBits 38 = .ok (.return_, 1) := by decide +kernel
set_option maxRecDepth 20000 in
theorem ggX10_putNumber_X10_width : GoodIn wsX10_putNumber wsX10_width := goodIn_r _ [4] (by decide +kernel) (by decide +kernel)
set_option maxRecDepth 20000 in
theorem gX10_putNumber_X10_width : GoodIn wsX10_putNumber (va_wsS RX10 116 yX10_width wsX10_width) := goodIn_app (goodIn_of _ (by decide +kernel)) ggX10_putNumber_X10_width
set_option maxRecDepth 20000 in
theorem ggX10_putNumber_X10_putBits : GoodIn wsX10_putNumber wsX10_putBits := goodIn_r _ [8, 9, 10, 11, 12, 13, 14, 15, 16, 17, 18, 19, 20, 21, 22, 23, 24, 25, 26, 27, 28, 29, 30, 31, 32, 33, 34, 35, 36, 37] (by decide +kernel) (by decide +kernel)
set_option maxRecDepth 20000 in
theorem gX10_putNumber_X10_putBits : GoodIn wsX10_putNumber (wsV RX10 163 RX10 yX10_putBits wsX10_putBits) := goodIn_app (goodIn_of _ (by decide +kernel)) ggX10_putNumber_X10_putBits
theorem dX10_putNumber_0 : decode cX10_putNumber 0 = .ok (.aload_n 0, 1) := by decide +kernel
theorem dX10_putNumber_1 : decode cX10_putNumber 1 = .ok (.iload_n 1, 1) := by decide +kernel
theorem dX10_putNumber_2 : decode cX10_putNumber 2 = .ok (.iload_n 1, 1) := by decide +kernel
theorem dX10_putNumber_3 : decode cX10_putNumber 3 = .ok (.invokestatic 116, 3) := by decide +kernel
theorem dX10_putNumber_6 : decode cX10_putNumber 6 = .ok (.invokevirtual 163, 3) := by decide +kernel
theorem dX10_putNumber_9 : decode cX10_putNumber 9 = .ok (.return_, 1) := by decide +kernel
set_option maxRecDepth 20000 in
theorem ggX10_write_X10_no : GoodIn wsX10_write wsX10_no := goodIn_r _ [14, 1, 27, 28, 29, 30, 31, 32, 33, 34, 35, 36, 37, 38, 39, 40, 41, 42, 43, 44, 45, 46, 47, 48, 49, 50, 51, 52, 53] (by decide +kernel) (by decide +kernel)
set_option maxRecDepth 20000 in
theorem gX10_write_X10_no : GoodIn wsX10_write (wsV RX10 75 RX10 yX10_no wsX10_no) := goodIn_app (goodIn_of _ (by decide +kernel)) ggX10_write_X10_no
set_option maxRecDepth 20000 in
theorem ggX10_write_X10_putBits : GoodIn wsX10_write wsX10_putBits := goodIn_r _ [18, 19, 3, 27, 28, 29, 30, 31, 32, 33, 34, 35, 36, 37, 38, 39, 40, 41, 42, 43, 44, 45, 46, 47, 48, 49, 50, 51, 52, 53] (by decide +kernel) (by decide +kernel)
set_option maxRecDepth 20000 in
theorem gX10_write_X10_putBits : GoodIn wsX10_write (wsV RX10 163 RX10 yX10_putBits wsX10_putBits) := goodIn_app (goodIn_of _ (by decide +kernel)) ggX10_write_X10_putBits
set_option maxRecDepth 20000 in
theorem ggX10_write_X10_putNumber : GoodIn wsX10_write wsX10_putNumber := goodIn_r _ [23, 24, 25, 13, 26, 15, 16, 17, 18, 19, 3, 27, 28, 29, 30, 31, 32, 33, 34, 35, 36, 37, 38, 39, 40, 41, 42, 43, 44, 45, 46, 47, 48, 49, 50, 51, 52, 53] (by decide +kernel) (by decide +kernel)
set_option maxRecDepth 20000 in
theorem gX10_write_X10_putNumber : GoodIn wsX10_write (wsV RX10 166 RX10 yX10_putNumber wsX10_putNumber) := goodIn_app (goodIn_of _ (by decide +kernel)) ggX10_write_X10_putNumber
theorem dX10_write_0 : decode cX10_write 0 = .ok (.aload_n 0, 1) := by decide +kernel
theorem dX10_write_1 : decode cX10_write 1 = .ok (.iconst 0, 1) := by decide +kernel
theorem dX10_write_2 : decode cX10_write 2 = .ok (.putfield 65, 3) := by decide +kernel
theorem dX10_write_5 : decode cX10_write 5 = .ok (.aload_n 0, 1) := by decide +kernel
theorem dX10_write_6 : decode cX10_write 6 = .ok (.getfield 81, 3) := by decide +kernel
theorem dX10_write_9 : decode cX10_write 9 = .ok (.ifCond .ne 9, 3) := by decide +kernel
theorem dX10_write_12 : decode cX10_write 12 = .ok (.aload_n 0, 1) := by decide +kernel
theorem dX10_write_13 : decode cX10_write 13 = .ok (.iconst 1, 1) := by decide +kernel
theorem dX10_write_14 : decode cX10_write 14 = .ok (.invokevirtual 75, 3) := by decide +kernel
theorem dX10_write_17 : decode cX10_write 17 = .ok (.ireturn, 1) := by decide +kernel
theorem dX10_write_18 : decode cX10_write 18 = .ok (.aload_n 0, 1) := by decide +kernel
theorem dX10_write_19 : decode cX10_write 19 = .ok (.iconst 0, 1) := by decide +kernel
theorem dX10_write_20 : decode cX10_write 20 = .ok (.putfield 160, 3) := by decide +kernel
theorem dX10_write_23 : decode cX10_write 23 = .ok (.iconst 0, 1) := by decide +kernel
theorem dX10_write_24 : decode cX10_write 24 = .ok (.istore_n 1, 1) := by decide +kernel
theorem dX10_write_25 : decode cX10_write 25 = .ok (.iload_n 1, 1) := by decide +kernel
theorem dX10_write_26 : decode cX10_write 26 = .ok (.aload_n 0, 1) := by decide +kernel
theorem dX10_write_27 : decode cX10_write 27 = .ok (.getfield 119, 3) := by decide +kernel
theorem dX10_write_30 : decode cX10_write 30 = .ok (.if_icmp .ge 118, 3) := by decide +kernel
theorem dX10_write_33 : decode cX10_write 33 = .ok (.aload_n 0, 1) := by decide +kernel
theorem dX10_write_34 : decode cX10_write 34 = .ok (.getfield 23, 3) := by decide +kernel
theorem dX10_write_37 : decode cX10_write 37 = .ok (.iload_n 1, 1) := by decide +kernel
theorem dX10_write_38 : decode cX10_write 38 = .ok (.iaload, 1) := by decide +kernel
theorem dX10_write_39 : decode cX10_write 39 = .ok (.ifCond .ne 23, 3) := by decide +kernel
theorem dX10_write_42 : decode cX10_write 42 = .ok (.aload_n 0, 1) := by decide +kernel
theorem dX10_write_43 : decode cX10_write 43 = .ok (.aload_n 0, 1) := by decide +kernel
theorem dX10_write_44 : decode cX10_write 44 = .ok (.getfield 9, 3) := by decide +kernel
theorem dX10_write_47 : decode cX10_write 47 = .ok (.aload_n 0, 1) := by decide +kernel
theorem dX10_write_48 : decode cX10_write 48 = .ok (.getfield 32, 3) := by decide +kernel
theorem dX10_write_51 : decode cX10_write 51 = .ok (.iload_n 1, 1) := by decide +kernel
theorem dX10_write_52 : decode cX10_write 52 = .ok (.iaload, 1) := by decide +kernel
theorem dX10_write_53 : decode cX10_write 53 = .ok (.iaload, 1) := by decide +kernel
theorem dX10_write_54 : decode cX10_write 54 = .ok (.bipush 9, 2) := by decide +kernel
theorem dX10_write_56 : decode cX10_write 56 = .ok (.invokevirtual 163, 3) := by decide +kernel
theorem dX10_write_59 : decode cX10_write 59 = .ok (.goto 23, 3) := by decide +kernel
theorem dX10_write_62 : decode cX10_write 62 = .ok (.aload_n 0, 1) := by decide +kernel
theorem dX10_write_63 : decode cX10_write 63 = .ok (.aload_n 0, 1) := by decide +kernel
theorem dX10_write_64 : decode cX10_write 64 = .ok (.getfield 23, 3) := by decide +kernel
theorem dX10_write_67 : decode cX10_write 67 = .ok (.iload_n 1, 1) := by decide +kernel
theorem dX10_write_68 : decode cX10_write 68 = .ok (.iaload, 1) := by decide +kernel
theorem dX10_write_69 : decode cX10_write 69 = .ok (.iconst 1, 1) := by decide +kernel
theorem dX10_write_70 : decode cX10_write 70 = .ok (.if_icmp .ne 7, 3) := by decide +kernel
theorem dX10_write_73 : decode cX10_write 73 = .ok (.iconst 2, 1) := by decide +kernel
theorem dX10_write_74 : decode cX10_write 74 = .ok (.goto 4, 3) := by decide +kernel
theorem dX10_write_77 : decode cX10_write 77 = .ok (.iconst 3, 1) := by decide +kernel
theorem dX10_write_78 : decode cX10_write 78 = .ok (.iconst 2, 1) := by decide +kernel
theorem dX10_write_79 : decode cX10_write 79 = .ok (.invokevirtual 163, 3) := by decide +kernel
theorem dX10_write_82 : decode cX10_write 82 = .ok (.aload_n 0, 1) := by decide +kernel
theorem dX10_write_83 : decode cX10_write 83 = .ok (.getfield 23, 3) := by decide +kernel
theorem dX10_write_86 : decode cX10_write 86 = .ok (.iload_n 1, 1) := by decide +kernel
theorem dX10_write_87 : decode cX10_write 87 = .ok (.iaload, 1) := by decide +kernel
theorem dX10_write_88 : decode cX10_write 88 = .ok (.iconst 1, 1) := by decide +kernel
theorem dX10_write_89 : decode cX10_write 89 = .ok (.if_icmp .ne 13, 3) := by decide +kernel
theorem dX10_write_92 : decode cX10_write 92 = .ok (.aload_n 0, 1) := by decide +kernel
theorem dX10_write_93 : decode cX10_write 93 = .ok (.aload_n 0, 1) := by decide +kernel
theorem dX10_write_94 : decode cX10_write 94 = .ok (.getfield 29, 3) := by decide +kernel
theorem dX10_write_97 : decode cX10_write 97 = .ok (.iload_n 1, 1) := by decide +kernel
theorem dX10_write_98 : decode cX10_write 98 = .ok (.iaload, 1) := by decide +kernel
theorem dX10_write_99 : decode cX10_write 99 = .ok (.invokevirtual 166, 3) := by decide +kernel
theorem dX10_write_102 : decode cX10_write 102 = .ok (.aload_n 0, 1) := by decide +kernel
theorem dX10_write_103 : decode cX10_write 103 = .ok (.getfield 23, 3) := by decide +kernel
theorem dX10_write_106 : decode cX10_write 106 = .ok (.iload_n 1, 1) := by decide +kernel
theorem dX10_write_107 : decode cX10_write 107 = .ok (.iaload, 1) := by decide +kernel
theorem dX10_write_108 : decode cX10_write 108 = .ok (.ifCond .eq 34, 3) := by decide +kernel
theorem dX10_write_111 : decode cX10_write 111 = .ok (.aload_n 0, 1) := by decide +kernel
theorem dX10_write_112 : decode cX10_write 112 = .ok (.aload_n 0, 1) := by decide +kernel
theorem dX10_write_113 : decode cX10_write 113 = .ok (.getfield 23, 3) := by decide +kernel
theorem dX10_write_116 : decode cX10_write 116 = .ok (.iload_n 1, 1) := by decide +kernel
theorem dX10_write_117 : decode cX10_write 117 = .ok (.iaload, 1) := by decide +kernel
theorem dX10_write_118 : decode cX10_write 118 = .ok (.iconst 1, 1) := by decide +kernel
theorem dX10_write_119 : decode cX10_write 119 = .ok (.if_icmp .ne 14, 3) := by decide +kernel
theorem dX10_write_122 : decode cX10_write 122 = .ok (.aload_n 0, 1) := by decide +kernel
theorem dX10_write_123 : decode cX10_write 123 = .ok (.getfield 26, 3) := by decide +kernel
theorem dX10_write_126 : decode cX10_write 126 = .ok (.iload_n 1, 1) := by decide +kernel
theorem dX10_write_127 : decode cX10_write 127 = .ok (.iaload, 1) := by decide +kernel
theorem dX10_write_128 : decode cX10_write 128 = .ok (.iconst 1, 1) := by decide +kernel
theorem dX10_write_129 : decode cX10_write 129 = .ok (.isub, 1) := by decide +kernel
theorem dX10_write_130 : decode cX10_write 130 = .ok (.goto 9, 3) := by decide +kernel
theorem dX10_write_133 : decode cX10_write 133 = .ok (.aload_n 0, 1) := by decide +kernel
theorem dX10_write_134 : decode cX10_write 134 = .ok (.getfield 26, 3) := by decide +kernel
theorem dX10_write_137 : decode cX10_write 137 = .ok (.iload_n 1, 1) := by decide +kernel
theorem dX10_write_138 : decode cX10_write 138 = .ok (.iaload, 1) := by decide +kernel
theorem dX10_write_139 : decode cX10_write 139 = .ok (.invokevirtual 166, 3) := by decide +kernel
theorem dX10_write_142 : decode cX10_write 142 = .ok (.iinc 1 1, 3) := by decide +kernel
theorem dX10_write_145 : decode cX10_write 145 = .ok (.goto (-120), 3) := by decide +kernel
theorem dX10_write_148 : decode cX10_write 148 = .ok (.aload_n 0, 1) := by decide +kernel
theorem dX10_write_149 : decode cX10_write 149 = .ok (.getfield 160, 3) := by decide +kernel
theorem dX10_write_152 : decode cX10_write 152 = .ok (.ireturn, 1) := by decide +kernel
theorem dX10_bitCount_0 : decode cX10_bitCount 0 = .ok (.aload_n 0, 1) := by decide +kernel
theorem dX10_bitCount_1 : decode cX10_bitCount 1 = .ok (.iconst 0, 1) := by decide +kernel
theorem dX10_bitCount_2 : decode cX10_bitCount 2 = .ok (.putfield 65, 3) := by decide +kernel
theorem dX10_bitCount_5 : decode cX10_bitCount 5 = .ok (.aload_n 0, 1) := by decide +kernel
theorem dX10_bitCount_6 : decode cX10_bitCount 6 = .ok (.getfield 160, 3) := by decide +kernel
theorem dX10_bitCount_9 : decode cX10_bitCount 9 = .ok (.ireturn, 1) := by decide +kernel
set_option maxRecDepth 20000 in
theorem ggX10_bit_X10_isIn : GoodIn wsX10_bit wsX10_isIn := goodIn_r _ [7] (by decide +kernel) (by decide +kernel)
set_option maxRecDepth 20000 in
theorem gX10_bit_X10_isIn : GoodIn wsX10_bit (va_wsS RX10 71 yX10_isIn wsX10_isIn) := goodIn_app (goodIn_of _ (by decide +kernel)) ggX10_bit_X10_isIn
set_option maxRecDepth 20000 in
theorem ggX10_bit_X10_no : GoodIn wsX10_bit wsX10_no := goodIn_r _ [11, 1, 12, 13, 14, 15, 16, 17, 18, 19, 20, 21, 22, 23, 24, 25, 26, 27, 28, 29, 30, 31, 32, 33, 34, 35, 36, 37, 38] (by decide +kernel) (by decide +kernel)
set_option maxRecDepth 20000 in
theorem gX10_bit_X10_no : GoodIn wsX10_bit (wsV RX10 75 RX10 yX10_no wsX10_no) := goodIn_app (goodIn_of _ (by decide +kernel)) ggX10_bit_X10_no
theorem dX10_bit_0 : decode cX10_bit 0 = .ok (.aload_n 0, 1) := by decide +kernel
theorem dX10_bit_1 : decode cX10_bit 1 = .ok (.iconst 0, 1) := by decide +kernel
theorem dX10_bit_2 : decode cX10_bit 2 = .ok (.putfield 65, 3) := by decide +kernel
theorem dX10_bit_5 : decode cX10_bit 5 = .ok (.iload_n 1, 1) := by decide +kernel
theorem dX10_bit_6 : decode cX10_bit 6 = .ok (.iconst 0, 1) := by decide +kernel
theorem dX10_bit_7 : decode cX10_bit 7 = .ok (.aload_n 0, 1) := by decide +kernel
theorem dX10_bit_8 : decode cX10_bit 8 = .ok (.getfield 160, 3) := by decide +kernel
theorem dX10_bit_11 : decode cX10_bit 11 = .ok (.iconst 1, 1) := by decide +kernel
theorem dX10_bit_12 : decode cX10_bit 12 = .ok (.isub, 1) := by decide +kernel
theorem dX10_bit_13 : decode cX10_bit 13 = .ok (.invokestatic 71, 3) := by decide +kernel
theorem dX10_bit_16 : decode cX10_bit 16 = .ok (.ifCond .eq 12, 3) := by decide +kernel
theorem dX10_bit_19 : decode cX10_bit 19 = .ok (.aload_n 0, 1) := by decide +kernel
theorem dX10_bit_20 : decode cX10_bit 20 = .ok (.getfield 35, 3) := by decide +kernel
theorem dX10_bit_23 : decode cX10_bit 23 = .ok (.iload_n 1, 1) := by decide +kernel
theorem dX10_bit_24 : decode cX10_bit 24 = .ok (.iaload, 1) := by decide +kernel
theorem dX10_bit_25 : decode cX10_bit 25 = .ok (.goto 8, 3) := by decide +kernel
theorem dX10_bit_28 : decode cX10_bit 28 = .ok (.aload_n 0, 1) := by decide +kernel
theorem dX10_bit_29 : decode cX10_bit 29 = .ok (.iconst 1, 1) := by decide +kernel
theorem dX10_bit_30 : decode cX10_bit 30 = .ok (.invokevirtual 75, 3) := by decide +kernel
theorem dX10_bit_33 : decode cX10_bit 33 = .ok (.ireturn, 1) := by decide +kernel
set_option maxRecDepth 20000 in
theorem ggX10_flip_X10_isIn : GoodIn wsX10_flip wsX10_isIn := goodIn_r _ [7] (by decide +kernel) (by decide +kernel)
set_option maxRecDepth 20000 in
theorem gX10_flip_X10_isIn : GoodIn wsX10_flip (va_wsS RX10 71 yX10_isIn wsX10_isIn) := goodIn_app (goodIn_of _ (by decide +kernel)) ggX10_flip_X10_isIn
set_option maxRecDepth 20000 in
theorem ggX10_flip_X10_no : GoodIn wsX10_flip wsX10_no := goodIn_r _ [11, 1, 12, 13, 14, 15, 16, 17, 18, 19, 20, 21, 22, 23, 24, 25, 26, 27, 28, 29, 30, 31, 32, 33, 34, 35, 36, 37, 38] (by decide +kernel) (by decide +kernel)
set_option maxRecDepth 20000 in
theorem gX10_flip_X10_no : GoodIn wsX10_flip (wsV RX10 75 RX10 yX10_no wsX10_no) := goodIn_app (goodIn_of _ (by decide +kernel)) ggX10_flip_X10_no
theorem dX10_flip_0 : decode cX10_flip 0 = .ok (.aload_n 0, 1) := by decide +kernel
theorem dX10_flip_1 : decode cX10_flip 1 = .ok (.iconst 0, 1) := by decide +kernel
theorem dX10_flip_2 : decode cX10_flip 2 = .ok (.putfield 65, 3) := by decide +kernel
theorem dX10_flip_5 : decode cX10_flip 5 = .ok (.iload_n 1, 1) := by decide +kernel
theorem dX10_flip_6 : decode cX10_flip 6 = .ok (.iconst 0, 1) := by decide +kernel
theorem dX10_flip_7 : decode cX10_flip 7 = .ok (.aload_n 0, 1) := by decide +kernel
theorem dX10_flip_8 : decode cX10_flip 8 = .ok (.getfield 160, 3) := by decide +kernel
theorem dX10_flip_11 : decode cX10_flip 11 = .ok (.iconst 1, 1) := by decide +kernel
theorem dX10_flip_12 : decode cX10_flip 12 = .ok (.isub, 1) := by decide +kernel
theorem dX10_flip_13 : decode cX10_flip 13 = .ok (.invokestatic 71, 3) := by decide +kernel
theorem dX10_flip_16 : decode cX10_flip 16 = .ok (.ifCond .ne 9, 3) := by decide +kernel
theorem dX10_flip_19 : decode cX10_flip 19 = .ok (.aload_n 0, 1) := by decide +kernel
theorem dX10_flip_20 : decode cX10_flip 20 = .ok (.iconst 1, 1) := by decide +kernel
theorem dX10_flip_21 : decode cX10_flip 21 = .ok (.invokevirtual 75, 3) := by decide +kernel
theorem dX10_flip_24 : decode cX10_flip 24 = .ok (.ireturn, 1) := by decide +kernel
theorem dX10_flip_25 : decode cX10_flip 25 = .ok (.aload_n 0, 1) := by decide +kernel
theorem dX10_flip_26 : decode cX10_flip 26 = .ok (.getfield 35, 3) := by decide +kernel
theorem dX10_flip_29 : decode cX10_flip 29 = .ok (.iload_n 1, 1) := by decide +kernel
theorem dX10_flip_30 : decode cX10_flip 30 = .ok (.iconst 1, 1) := by decide +kernel
theorem dX10_flip_31 : decode cX10_flip 31 = .ok (.aload_n 0, 1) := by decide +kernel
theorem dX10_flip_32 : decode cX10_flip 32 = .ok (.getfield 35, 3) := by decide +kernel
theorem dX10_flip_35 : decode cX10_flip 35 = .ok (.iload_n 1, 1) := by decide +kernel
theorem dX10_flip_36 : decode cX10_flip 36 = .ok (.iaload, 1) := by decide +kernel
theorem dX10_flip_37 : decode cX10_flip 37 = .ok (.isub, 1) := by decide +kernel
theorem dX10_flip_38 : decode cX10_flip 38 = .ok (.iastore, 1) := by decide +kernel
theorem dX10_flip_39 : decode cX10_flip 39 = .ok (.iconst 1, 1) := by decide +kernel
theorem dX10_flip_40 : decode cX10_flip 40 = .ok (.aload_n 0, 1) := by decide +kernel
theorem dX10_flip_41 : decode cX10_flip 41 = .ok (.getfield 35, 3) := by decide +kernel
theorem dX10_flip_44 : decode cX10_flip 44 = .ok (.iload_n 1, 1) := by decide +kernel
theorem dX10_flip_45 : decode cX10_flip 45 = .ok (.iaload, 1) := by decide +kernel
theorem dX10_flip_46 : decode cX10_flip 46 = .ok (.isub, 1) := by decide +kernel
theorem dX10_flip_47 : decode cX10_flip 47 = .ok (.ireturn, 1) := by decide +kernel
set_option maxRecDepth 20000 in
theorem ggX10_appendBits_X10_isIn : GoodIn wsX10_appendBits wsX10_isIn := goodIn_r _ [6] (by decide +kernel) (by decide +kernel)
set_option maxRecDepth 20000 in
theorem gX10_appendBits_X10_isIn : GoodIn wsX10_appendBits (va_wsS RX10 71 yX10_isIn wsX10_isIn) := goodIn_app (goodIn_of _ (by decide +kernel)) ggX10_appendBits_X10_isIn
set_option maxRecDepth 20000 in
theorem ggX10_appendBits_X10_no : GoodIn wsX10_appendBits wsX10_no := goodIn_r _ [10, 1, 16, 17, 18, 19, 20, 21, 22, 23, 24, 25, 26, 27, 28, 29, 30, 31, 32, 33, 34, 35, 36, 37, 38, 39, 40, 41, 42] (by decide +kernel) (by decide +kernel)
set_option maxRecDepth 20000 in
theorem gX10_appendBits_X10_no : GoodIn wsX10_appendBits (wsV RX10 75 RX10 yX10_no wsX10_no) := goodIn_app (goodIn_of _ (by decide +kernel)) ggX10_appendBits_X10_no
set_option maxRecDepth 20000 in
theorem ggX10_appendBits_X10_putBits : GoodIn wsX10_appendBits wsX10_putBits := goodIn_r _ [14, 15, 2, 16, 17, 18, 19, 20, 21, 22, 23, 24, 25, 26, 27, 28, 29, 30, 31, 32, 33, 34, 35, 36, 37, 38, 39, 40, 41, 42] (by decide +kernel) (by decide +kernel)
set_option maxRecDepth 20000 in
theorem gX10_appendBits_X10_putBits : GoodIn wsX10_appendBits (wsV RX10 163 RX10 yX10_putBits wsX10_putBits) := goodIn_app (goodIn_of _ (by decide +kernel)) ggX10_appendBits_X10_putBits
theorem dX10_appendBits_0 : decode cX10_appendBits 0 = .ok (.aload_n 0, 1) := by decide +kernel
theorem dX10_appendBits_1 : decode cX10_appendBits 1 = .ok (.iconst 0, 1) := by decide +kernel
theorem dX10_appendBits_2 : decode cX10_appendBits 2 = .ok (.putfield 65, 3) := by decide +kernel
theorem dX10_appendBits_5 : decode cX10_appendBits 5 = .ok (.iload_n 2, 1) := by decide +kernel
theorem dX10_appendBits_6 : decode cX10_appendBits 6 = .ok (.iconst 1, 1) := by decide +kernel
theorem dX10_appendBits_7 : decode cX10_appendBits 7 = .ok (.bipush 16, 2) := by decide +kernel
theorem dX10_appendBits_9 : decode cX10_appendBits 9 = .ok (.invokestatic 71, 3) := by decide +kernel
theorem dX10_appendBits_12 : decode cX10_appendBits 12 = .ok (.ifCond .ne 9, 3) := by decide +kernel
theorem dX10_appendBits_15 : decode cX10_appendBits 15 = .ok (.aload_n 0, 1) := by decide +kernel
theorem dX10_appendBits_16 : decode cX10_appendBits 16 = .ok (.iconst 1, 1) := by decide +kernel
theorem dX10_appendBits_17 : decode cX10_appendBits 17 = .ok (.invokevirtual 75, 3) := by decide +kernel
theorem dX10_appendBits_20 : decode cX10_appendBits 20 = .ok (.ireturn, 1) := by decide +kernel
theorem dX10_appendBits_21 : decode cX10_appendBits 21 = .ok (.aload_n 0, 1) := by decide +kernel
theorem dX10_appendBits_22 : decode cX10_appendBits 22 = .ok (.getfield 160, 3) := by decide +kernel
theorem dX10_appendBits_25 : decode cX10_appendBits 25 = .ok (.iload_n 2, 1) := by decide +kernel
theorem dX10_appendBits_26 : decode cX10_appendBits 26 = .ok (.iadd, 1) := by decide +kernel
theorem dX10_appendBits_27 : decode cX10_appendBits 27 = .ok (.sipush 800, 3) := by decide +kernel
theorem dX10_appendBits_30 : decode cX10_appendBits 30 = .ok (.if_icmp .le 9, 3) := by decide +kernel
theorem dX10_appendBits_33 : decode cX10_appendBits 33 = .ok (.aload_n 0, 1) := by decide +kernel
theorem dX10_appendBits_34 : decode cX10_appendBits 34 = .ok (.iconst 2, 1) := by decide +kernel
theorem dX10_appendBits_35 : decode cX10_appendBits 35 = .ok (.invokevirtual 75, 3) := by decide +kernel
theorem dX10_appendBits_38 : decode cX10_appendBits 38 = .ok (.ireturn, 1) := by decide +kernel
theorem dX10_appendBits_39 : decode cX10_appendBits 39 = .ok (.aload_n 0, 1) := by decide +kernel
theorem dX10_appendBits_40 : decode cX10_appendBits 40 = .ok (.iload_n 1, 1) := by decide +kernel
theorem dX10_appendBits_41 : decode cX10_appendBits 41 = .ok (.iload_n 2, 1) := by decide +kernel
theorem dX10_appendBits_42 : decode cX10_appendBits 42 = .ok (.invokevirtual 163, 3) := by decide +kernel
theorem dX10_appendBits_45 : decode cX10_appendBits 45 = .ok (.aload_n 0, 1) := by decide +kernel
theorem dX10_appendBits_46 : decode cX10_appendBits 46 = .ok (.getfield 160, 3) := by decide +kernel
theorem dX10_appendBits_49 : decode cX10_appendBits 49 = .ok (.ireturn, 1) := by decide +kernel
set_option maxRecDepth 20000 in
theorem ggX10_cutBits_X10_isIn : GoodIn wsX10_cutBits wsX10_isIn := goodIn_r _ [6] (by decide +kernel) (by decide +kernel)
set_option maxRecDepth 20000 in
theorem gX10_cutBits_X10_isIn : GoodIn wsX10_cutBits (va_wsS RX10 71 yX10_isIn wsX10_isIn) := goodIn_app (goodIn_of _ (by decide +kernel)) ggX10_cutBits_X10_isIn
set_option maxRecDepth 20000 in
theorem ggX10_cutBits_X10_no : GoodIn wsX10_cutBits wsX10_no := goodIn_r _ [10, 1, 11, 12, 13, 14, 15, 16, 17, 18, 19, 20, 21, 22, 23, 24, 25, 26, 27, 28, 29, 30, 31, 32, 33, 34, 35, 36, 37] (by decide +kernel) (by decide +kernel)
set_option maxRecDepth 20000 in
theorem gX10_cutBits_X10_no : GoodIn wsX10_cutBits (wsV RX10 75 RX10 yX10_no wsX10_no) := goodIn_app (goodIn_of _ (by decide +kernel)) ggX10_cutBits_X10_no
theorem dX10_cutBits_0 : decode cX10_cutBits 0 = .ok (.aload_n 0, 1) := by decide +kernel
theorem dX10_cutBits_1 : decode cX10_cutBits 1 = .ok (.iconst 0, 1) := by decide +kernel
theorem dX10_cutBits_2 : decode cX10_cutBits 2 = .ok (.putfield 65, 3) := by decide +kernel
theorem dX10_cutBits_5 : decode cX10_cutBits 5 = .ok (.iload_n 1, 1) := by decide +kernel
theorem dX10_cutBits_6 : decode cX10_cutBits 6 = .ok (.iconst 0, 1) := by decide +kernel
theorem dX10_cutBits_7 : decode cX10_cutBits 7 = .ok (.aload_n 0, 1) := by decide +kernel
theorem dX10_cutBits_8 : decode cX10_cutBits 8 = .ok (.getfield 160, 3) := by decide +kernel
theorem dX10_cutBits_11 : decode cX10_cutBits 11 = .ok (.invokestatic 71, 3) := by decide +kernel
theorem dX10_cutBits_14 : decode cX10_cutBits 14 = .ok (.ifCond .ne 9, 3) := by decide +kernel
theorem dX10_cutBits_17 : decode cX10_cutBits 17 = .ok (.aload_n 0, 1) := by decide +kernel
theorem dX10_cutBits_18 : decode cX10_cutBits 18 = .ok (.iconst 1, 1) := by decide +kernel
theorem dX10_cutBits_19 : decode cX10_cutBits 19 = .ok (.invokevirtual 75, 3) := by decide +kernel
theorem dX10_cutBits_22 : decode cX10_cutBits 22 = .ok (.ireturn, 1) := by decide +kernel
theorem dX10_cutBits_23 : decode cX10_cutBits 23 = .ok (.aload_n 0, 1) := by decide +kernel
theorem dX10_cutBits_24 : decode cX10_cutBits 24 = .ok (.dup, 1) := by decide +kernel
theorem dX10_cutBits_25 : decode cX10_cutBits 25 = .ok (.getfield 160, 3) := by decide +kernel
theorem dX10_cutBits_28 : decode cX10_cutBits 28 = .ok (.iload_n 1, 1) := by decide +kernel
theorem dX10_cutBits_29 : decode cX10_cutBits 29 = .ok (.isub, 1) := by decide +kernel
theorem dX10_cutBits_30 : decode cX10_cutBits 30 = .ok (.putfield 160, 3) := by decide +kernel
theorem dX10_cutBits_33 : decode cX10_cutBits 33 = .ok (.aload_n 0, 1) := by decide +kernel
theorem dX10_cutBits_34 : decode cX10_cutBits 34 = .ok (.getfield 160, 3) := by decide +kernel
theorem dX10_cutBits_37 : decode cX10_cutBits 37 = .ok (.ireturn, 1) := by decide +kernel
theorem dX10_take_0 : decode cX10_take 0 = .ok (.aload_n 0, 1) := by decide +kernel
theorem dX10_take_1 : decode cX10_take 1 = .ok (.getfield 169, 3) := by decide +kernel
theorem dX10_take_4 : decode cX10_take 4 = .ok (.ifCond .ne 21, 3) := by decide +kernel
theorem dX10_take_7 : decode cX10_take 7 = .ok (.aload_n 0, 1) := by decide +kernel
theorem dX10_take_8 : decode cX10_take 8 = .ok (.getfield 172, 3) := by decide +kernel
theorem dX10_take_11 : decode cX10_take 11 = .ok (.iload_n 1, 1) := by decide +kernel
theorem dX10_take_12 : decode cX10_take 12 = .ok (.iadd, 1) := by decide +kernel
theorem dX10_take_13 : decode cX10_take 13 = .ok (.aload_n 0, 1) := by decide +kernel
theorem dX10_take_14 : decode cX10_take 14 = .ok (.getfield 160, 3) := by decide +kernel
theorem dX10_take_17 : decode cX10_take 17 = .ok (.if_icmp .le 8, 3) := by decide +kernel
theorem dX10_take_20 : decode cX10_take 20 = .ok (.aload_n 0, 1) := by decide +kernel
theorem dX10_take_21 : decode cX10_take 21 = .ok (.iconst 1, 1) := by decide +kernel
theorem dX10_take_22 : decode cX10_take 22 = .ok (.putfield 169, 3) := by decide +kernel
theorem dX10_take_25 : decode cX10_take 25 = .ok (.iconst 0, 1) := by decide +kernel
theorem dX10_take_26 : decode cX10_take 26 = .ok (.istore_n 2, 1) := by decide +kernel
theorem dX10_take_27 : decode cX10_take 27 = .ok (.iconst 0, 1) := by decide +kernel
theorem dX10_take_28 : decode cX10_take 28 = .ok (.istore_n 3, 1) := by decide +kernel
theorem dX10_take_29 : decode cX10_take 29 = .ok (.iload_n 3, 1) := by decide +kernel
theorem dX10_take_30 : decode cX10_take 30 = .ok (.iload_n 1, 1) := by decide +kernel
theorem dX10_take_31 : decode cX10_take 31 = .ok (.if_icmp .ge 40, 3) := by decide +kernel
theorem dX10_take_34 : decode cX10_take 34 = .ok (.aload_n 0, 1) := by decide +kernel
theorem dX10_take_35 : decode cX10_take 35 = .ok (.getfield 169, 3) := by decide +kernel
theorem dX10_take_38 : decode cX10_take 38 = .ok (.ifCond .ne 33, 3) := by decide +kernel
theorem dX10_take_41 : decode cX10_take 41 = .ok (.iconst 2, 1) := by decide +kernel
theorem dX10_take_42 : decode cX10_take 42 = .ok (.iload_n 2, 1) := by decide +kernel
theorem dX10_take_43 : decode cX10_take 43 = .ok (.imul, 1) := by decide +kernel
theorem dX10_take_44 : decode cX10_take 44 = .ok (.aload_n 0, 1) := by decide +kernel
theorem dX10_take_45 : decode cX10_take 45 = .ok (.getfield 35, 3) := by decide +kernel
theorem dX10_take_48 : decode cX10_take 48 = .ok (.aload_n 0, 1) := by decide +kernel
theorem dX10_take_49 : decode cX10_take 49 = .ok (.getfield 172, 3) := by decide +kernel
theorem dX10_take_52 : decode cX10_take 52 = .ok (.iaload, 1) := by decide +kernel
theorem dX10_take_53 : decode cX10_take 53 = .ok (.iadd, 1) := by decide +kernel
theorem dX10_take_54 : decode cX10_take 54 = .ok (.istore_n 2, 1) := by decide +kernel
theorem dX10_take_55 : decode cX10_take 55 = .ok (.aload_n 0, 1) := by decide +kernel
theorem dX10_take_56 : decode cX10_take 56 = .ok (.dup, 1) := by decide +kernel
theorem dX10_take_57 : decode cX10_take 57 = .ok (.getfield 172, 3) := by decide +kernel
theorem dX10_take_60 : decode cX10_take 60 = .ok (.iconst 1, 1) := by decide +kernel
theorem dX10_take_61 : decode cX10_take 61 = .ok (.iadd, 1) := by decide +kernel
theorem dX10_take_62 : decode cX10_take 62 = .ok (.putfield 172, 3) := by decide +kernel
theorem dX10_take_65 : decode cX10_take 65 = .ok (.iinc 3 1, 3) := by decide +kernel
theorem dX10_take_68 : decode cX10_take 68 = .ok (.goto (-39), 3) := by decide +kernel
theorem dX10_take_71 : decode cX10_take 71 = .ok (.iload_n 2, 1) := by decide +kernel
theorem dX10_take_72 : decode cX10_take 72 = .ok (.ireturn, 1) := by decide +kernel
set_option maxRecDepth 20000 in
theorem ggX10_takeNumber_X10_take : GoodIn wsX10_takeNumber wsX10_take := goodIn_r _ [9, 1, 2, 3, 4, 10, 11, 12, 13, 14, 15, 16, 17, 18, 19, 20, 21, 22, 23, 24, 25, 26, 27, 28, 29, 30, 31, 32, 33, 34, 35, 36] (by decide +kernel) (by decide +kernel)
set_option maxRecDepth 20000 in
theorem gX10_takeNumber_X10_take : GoodIn wsX10_takeNumber (wsV RX10 175 RX10 yX10_take wsX10_take) := goodIn_app (goodIn_of _ (by decide +kernel)) ggX10_takeNumber_X10_take
theorem dX10_takeNumber_0 : decode cX10_takeNumber 0 = .ok (.iconst 0, 1) := by decide +kernel
theorem dX10_takeNumber_1 : decode cX10_takeNumber 1 = .ok (.istore_n 1, 1) := by decide +kernel
theorem dX10_takeNumber_2 : decode cX10_takeNumber 2 = .ok (.aload_n 0, 1) := by decide +kernel
theorem dX10_takeNumber_3 : decode cX10_takeNumber 3 = .ok (.getfield 169, 3) := by decide +kernel
theorem dX10_takeNumber_6 : decode cX10_takeNumber 6 = .ok (.ifCond .ne 53, 3) := by decide +kernel
theorem dX10_takeNumber_9 : decode cX10_takeNumber 9 = .ok (.aload_n 0, 1) := by decide +kernel
theorem dX10_takeNumber_10 : decode cX10_takeNumber 10 = .ok (.getfield 172, 3) := by decide +kernel
theorem dX10_takeNumber_13 : decode cX10_takeNumber 13 = .ok (.aload_n 0, 1) := by decide +kernel
theorem dX10_takeNumber_14 : decode cX10_takeNumber 14 = .ok (.getfield 160, 3) := by decide +kernel
theorem dX10_takeNumber_17 : decode cX10_takeNumber 17 = .ok (.if_icmp .ge 42, 3) := by decide +kernel
theorem dX10_takeNumber_20 : decode cX10_takeNumber 20 = .ok (.aload_n 0, 1) := by decide +kernel
theorem dX10_takeNumber_21 : decode cX10_takeNumber 21 = .ok (.getfield 35, 3) := by decide +kernel
theorem dX10_takeNumber_24 : decode cX10_takeNumber 24 = .ok (.aload_n 0, 1) := by decide +kernel
theorem dX10_takeNumber_25 : decode cX10_takeNumber 25 = .ok (.getfield 172, 3) := by decide +kernel
theorem dX10_takeNumber_28 : decode cX10_takeNumber 28 = .ok (.iaload, 1) := by decide +kernel
theorem dX10_takeNumber_29 : decode cX10_takeNumber 29 = .ok (.ifCond .ne 30, 3) := by decide +kernel
theorem dX10_takeNumber_32 : decode cX10_takeNumber 32 = .ok (.aload_n 0, 1) := by decide +kernel
theorem dX10_takeNumber_33 : decode cX10_takeNumber 33 = .ok (.dup, 1) := by decide +kernel
theorem dX10_takeNumber_34 : decode cX10_takeNumber 34 = .ok (.getfield 172, 3) := by decide +kernel
theorem dX10_takeNumber_37 : decode cX10_takeNumber 37 = .ok (.iconst 1, 1) := by decide +kernel
theorem dX10_takeNumber_38 : decode cX10_takeNumber 38 = .ok (.iadd, 1) := by decide +kernel
theorem dX10_takeNumber_39 : decode cX10_takeNumber 39 = .ok (.putfield 172, 3) := by decide +kernel
theorem dX10_takeNumber_42 : decode cX10_takeNumber 42 = .ok (.iinc 1 1, 3) := by decide +kernel
theorem dX10_takeNumber_45 : decode cX10_takeNumber 45 = .ok (.iload_n 1, 1) := by decide +kernel
theorem dX10_takeNumber_46 : decode cX10_takeNumber 46 = .ok (.bipush 7, 2) := by decide +kernel
theorem dX10_takeNumber_48 : decode cX10_takeNumber 48 = .ok (.if_icmp .le (-46), 3) := by decide +kernel
theorem dX10_takeNumber_51 : decode cX10_takeNumber 51 = .ok (.aload_n 0, 1) := by decide +kernel
theorem dX10_takeNumber_52 : decode cX10_takeNumber 52 = .ok (.iconst 2, 1) := by decide +kernel
theorem dX10_takeNumber_53 : decode cX10_takeNumber 53 = .ok (.putfield 169, 3) := by decide +kernel
theorem dX10_takeNumber_56 : decode cX10_takeNumber 56 = .ok (.goto (-54), 3) := by decide +kernel
theorem dX10_takeNumber_59 : decode cX10_takeNumber 59 = .ok (.aload_n 0, 1) := by decide +kernel
theorem dX10_takeNumber_60 : decode cX10_takeNumber 60 = .ok (.iload_n 1, 1) := by decide +kernel
theorem dX10_takeNumber_61 : decode cX10_takeNumber 61 = .ok (.iconst 1, 1) := by decide +kernel
theorem dX10_takeNumber_62 : decode cX10_takeNumber 62 = .ok (.iadd, 1) := by decide +kernel
theorem dX10_takeNumber_63 : decode cX10_takeNumber 63 = .ok (.invokevirtual 175, 3) := by decide +kernel
theorem dX10_takeNumber_66 : decode cX10_takeNumber 66 = .ok (.ireturn, 1) := by decide +kernel
theorem dX10_repeat_0 : decode cX10_repeat 0 = .ok (.iconst 0, 1) := by decide +kernel
theorem dX10_repeat_1 : decode cX10_repeat 1 = .ok (.istore_n 3, 1) := by decide +kernel
theorem dX10_repeat_2 : decode cX10_repeat 2 = .ok (.iload_n 3, 1) := by decide +kernel
theorem dX10_repeat_3 : decode cX10_repeat 3 = .ok (.iload_n 2, 1) := by decide +kernel
theorem dX10_repeat_4 : decode cX10_repeat 4 = .ok (.if_icmp .ge 39, 3) := by decide +kernel
theorem dX10_repeat_7 : decode cX10_repeat 7 = .ok (.aload_n 0, 1) := by decide +kernel
theorem dX10_repeat_8 : decode cX10_repeat 8 = .ok (.getfield 38, 3) := by decide +kernel
theorem dX10_repeat_11 : decode cX10_repeat 11 = .ok (.aload_n 0, 1) := by decide +kernel
theorem dX10_repeat_12 : decode cX10_repeat 12 = .ok (.getfield 178, 3) := by decide +kernel
theorem dX10_repeat_15 : decode cX10_repeat 15 = .ok (.aload_n 0, 1) := by decide +kernel
theorem dX10_repeat_16 : decode cX10_repeat 16 = .ok (.getfield 38, 3) := by decide +kernel
theorem dX10_repeat_19 : decode cX10_repeat 19 = .ok (.aload_n 0, 1) := by decide +kernel
theorem dX10_repeat_20 : decode cX10_repeat 20 = .ok (.getfield 178, 3) := by decide +kernel
theorem dX10_repeat_23 : decode cX10_repeat 23 = .ok (.iload_n 1, 1) := by decide +kernel
theorem dX10_repeat_24 : decode cX10_repeat 24 = .ok (.isub, 1) := by decide +kernel
theorem dX10_repeat_25 : decode cX10_repeat 25 = .ok (.iaload, 1) := by decide +kernel
theorem dX10_repeat_26 : decode cX10_repeat 26 = .ok (.iastore, 1) := by decide +kernel
theorem dX10_repeat_27 : decode cX10_repeat 27 = .ok (.aload_n 0, 1) := by decide +kernel
theorem dX10_repeat_28 : decode cX10_repeat 28 = .ok (.dup, 1) := by decide +kernel
theorem dX10_repeat_29 : decode cX10_repeat 29 = .ok (.getfield 178, 3) := by decide +kernel
theorem dX10_repeat_32 : decode cX10_repeat 32 = .ok (.iconst 1, 1) := by decide +kernel
theorem dX10_repeat_33 : decode cX10_repeat 33 = .ok (.iadd, 1) := by decide +kernel
theorem dX10_repeat_34 : decode cX10_repeat 34 = .ok (.putfield 178, 3) := by decide +kernel
theorem dX10_repeat_37 : decode cX10_repeat 37 = .ok (.iinc 3 1, 3) := by decide +kernel
theorem dX10_repeat_40 : decode cX10_repeat 40 = .ok (.goto (-38), 3) := by decide +kernel
theorem dX10_repeat_43 : decode cX10_repeat 43 = .ok (.return_, 1) := by decide +kernel
set_option maxRecDepth 20000 in
theorem ggX10_read_X10_take : GoodIn wsX10_read wsX10_take := goodIn_r _ [12, 4, 3, 6, 13, 22, 23, 24, 25, 26, 27, 28, 29, 30, 31, 32, 33, 34, 35, 36, 37, 38, 39, 40, 41, 42, 43, 44, 45, 46, 47, 48] (by decide +kernel) (by decide +kernel)
set_option maxRecDepth 20000 in
theorem gX10_read_X10_take : GoodIn wsX10_read (wsV RX10 175 RX10 yX10_take wsX10_take) := goodIn_app (goodIn_of _ (by decide +kernel)) ggX10_read_X10_take
set_option maxRecDepth 20000 in
theorem ggX10_read_X10_takeNumber : GoodIn wsX10_read wsX10_takeNumber := goodIn_r _ [17, 4, 3, 6, 13, 8, 9, 10, 11, 12, 22, 23, 24, 25, 26, 27, 28, 29, 30, 31, 32, 33, 34, 35, 36, 37, 38, 39, 40, 41, 42, 43, 44, 45, 46, 47, 48] (by decide +kernel) (by decide +kernel)
set_option maxRecDepth 20000 in
theorem gX10_read_X10_takeNumber : GoodIn wsX10_read (wsV RX10 181 RX10 yX10_takeNumber wsX10_takeNumber) := goodIn_app (goodIn_of _ (by decide +kernel)) ggX10_read_X10_takeNumber
set_option maxRecDepth 20000 in
theorem ggX10_read_X10_repeat : GoodIn wsX10_read wsX10_repeat := goodIn_r _ [21, 7, 2, 22, 23, 24, 25, 26, 27, 28, 29, 30, 31, 32, 33, 34, 35, 36, 37, 38, 39, 40, 41, 42, 43, 44, 45, 46, 47, 48] (by decide +kernel) (by decide +kernel)
set_option maxRecDepth 20000 in
theorem gX10_read_X10_repeat : GoodIn wsX10_read (wsV RX10 184 RX10 yX10_repeat wsX10_repeat) := goodIn_app (goodIn_of _ (by decide +kernel)) ggX10_read_X10_repeat
theorem dX10_read_0 : decode cX10_read 0 = .ok (.aload_n 0, 1) := by decide +kernel
theorem dX10_read_1 : decode cX10_read 1 = .ok (.iconst 0, 1) := by decide +kernel
theorem dX10_read_2 : decode cX10_read 2 = .ok (.putfield 65, 3) := by decide +kernel
theorem dX10_read_5 : decode cX10_read 5 = .ok (.aload_n 0, 1) := by decide +kernel
theorem dX10_read_6 : decode cX10_read 6 = .ok (.iconst 0, 1) := by decide +kernel
theorem dX10_read_7 : decode cX10_read 7 = .ok (.putfield 178, 3) := by decide +kernel
theorem dX10_read_10 : decode cX10_read 10 = .ok (.aload_n 0, 1) := by decide +kernel
theorem dX10_read_11 : decode cX10_read 11 = .ok (.iconst 0, 1) := by decide +kernel
theorem dX10_read_12 : decode cX10_read 12 = .ok (.putfield 172, 3) := by decide +kernel
theorem dX10_read_15 : decode cX10_read 15 = .ok (.aload_n 0, 1) := by decide +kernel
theorem dX10_read_16 : decode cX10_read 16 = .ok (.iconst 0, 1) := by decide +kernel
theorem dX10_read_17 : decode cX10_read 17 = .ok (.putfield 169, 3) := by decide +kernel
theorem dX10_read_20 : decode cX10_read 20 = .ok (.aload_n 0, 1) := by decide +kernel
theorem dX10_read_21 : decode cX10_read 21 = .ok (.iconst (-1), 1) := by decide +kernel
theorem dX10_read_22 : decode cX10_read 22 = .ok (.putfield 41, 3) := by decide +kernel
theorem dX10_read_25 : decode cX10_read 25 = .ok (.iconst 0, 1) := by decide +kernel
theorem dX10_read_26 : decode cX10_read 26 = .ok (.istore_n 1, 1) := by decide +kernel
theorem dX10_read_27 : decode cX10_read 27 = .ok (.aload_n 0, 1) := by decide +kernel
theorem dX10_read_28 : decode cX10_read 28 = .ok (.getfield 172, 3) := by decide +kernel
theorem dX10_read_31 : decode cX10_read 31 = .ok (.aload_n 0, 1) := by decide +kernel
theorem dX10_read_32 : decode cX10_read 32 = .ok (.getfield 160, 3) := by decide +kernel
theorem dX10_read_35 : decode cX10_read 35 = .ok (.if_icmp .ge 221, 3) := by decide +kernel
theorem dX10_read_38 : decode cX10_read 38 = .ok (.aload_n 0, 1) := by decide +kernel
theorem dX10_read_39 : decode cX10_read 39 = .ok (.getfield 169, 3) := by decide +kernel
theorem dX10_read_42 : decode cX10_read 42 = .ok (.ifCond .ne 214, 3) := by decide +kernel
theorem dX10_read_45 : decode cX10_read 45 = .ok (.aload_n 0, 1) := by decide +kernel
theorem dX10_read_46 : decode cX10_read 46 = .ok (.getfield 172, 3) := by decide +kernel
theorem dX10_read_49 : decode cX10_read 49 = .ok (.istore_n 2, 1) := by decide +kernel
theorem dX10_read_50 : decode cX10_read 50 = .ok (.aload_n 0, 1) := by decide +kernel
theorem dX10_read_51 : decode cX10_read 51 = .ok (.iconst 1, 1) := by decide +kernel
theorem dX10_read_52 : decode cX10_read 52 = .ok (.invokevirtual 175, 3) := by decide +kernel
theorem dX10_read_55 : decode cX10_read 55 = .ok (.ifCond .ne 7, 3) := by decide +kernel
theorem dX10_read_58 : decode cX10_read 58 = .ok (.iconst 0, 1) := by decide +kernel
theorem dX10_read_59 : decode cX10_read 59 = .ok (.goto 10, 3) := by decide +kernel
theorem dX10_read_62 : decode cX10_read 62 = .ok (.iconst 1, 1) := by decide +kernel
theorem dX10_read_63 : decode cX10_read 63 = .ok (.aload_n 0, 1) := by decide +kernel
theorem dX10_read_64 : decode cX10_read 64 = .ok (.iconst 1, 1) := by decide +kernel
theorem dX10_read_65 : decode cX10_read 65 = .ok (.invokevirtual 175, 3) := by decide +kernel
theorem dX10_read_68 : decode cX10_read 68 = .ok (.iadd, 1) := by decide +kernel
theorem dX10_read_69 : decode cX10_read 69 = .ok (.istore_n 3, 1) := by decide +kernel
theorem dX10_read_70 : decode cX10_read 70 = .ok (.iload_n 3, 1) := by decide +kernel
theorem dX10_read_71 : decode cX10_read 71 = .ok (.iconst 1, 1) := by decide +kernel
theorem dX10_read_72 : decode cX10_read 72 = .ok (.if_icmp .ne 10, 3) := by decide +kernel
theorem dX10_read_75 : decode cX10_read 75 = .ok (.aload_n 0, 1) := by decide +kernel
theorem dX10_read_76 : decode cX10_read 76 = .ok (.invokevirtual 181, 3) := by decide +kernel
theorem dX10_read_79 : decode cX10_read 79 = .ok (.goto 4, 3) := by decide +kernel
theorem dX10_read_82 : decode cX10_read 82 = .ok (.iload_n 1, 1) := by decide +kernel
theorem dX10_read_83 : decode cX10_read 83 = .ok (.istore 4, 2) := by decide +kernel
theorem dX10_read_85 : decode cX10_read 85 = .ok (.iload_n 3, 1) := by decide +kernel
theorem dX10_read_86 : decode cX10_read 86 = .ok (.ifCond .ne 12, 3) := by decide +kernel
theorem dX10_read_89 : decode cX10_read 89 = .ok (.aload_n 0, 1) := by decide +kernel
theorem dX10_read_90 : decode cX10_read 90 = .ok (.bipush 8, 2) := by decide +kernel
theorem dX10_read_92 : decode cX10_read 92 = .ok (.invokevirtual 175, 3) := by decide +kernel
theorem dX10_read_95 : decode cX10_read 95 = .ok (.goto 7, 3) := by decide +kernel
theorem dX10_read_98 : decode cX10_read 98 = .ok (.aload_n 0, 1) := by decide +kernel
theorem dX10_read_99 : decode cX10_read 99 = .ok (.invokevirtual 181, 3) := by decide +kernel
theorem dX10_read_102 : decode cX10_read 102 = .ok (.istore 5, 2) := by decide +kernel
theorem dX10_read_104 : decode cX10_read 104 = .ok (.iload_n 3, 1) := by decide +kernel
theorem dX10_read_105 : decode cX10_read 105 = .ok (.ifCond .ne 7, 3) := by decide +kernel
theorem dX10_read_108 : decode cX10_read 108 = .ok (.iconst 1, 1) := by decide +kernel
theorem dX10_read_109 : decode cX10_read 109 = .ok (.goto 17, 3) := by decide +kernel
theorem dX10_read_112 : decode cX10_read 112 = .ok (.iload_n 3, 1) := by decide +kernel
theorem dX10_read_113 : decode cX10_read 113 = .ok (.iconst 1, 1) := by decide +kernel
theorem dX10_read_114 : decode cX10_read 114 = .ok (.if_icmp .ne 10, 3) := by decide +kernel
theorem dX10_read_117 : decode cX10_read 117 = .ok (.iload 5, 2) := by decide +kernel
theorem dX10_read_119 : decode cX10_read 119 = .ok (.iconst 1, 1) := by decide +kernel
theorem dX10_read_120 : decode cX10_read 120 = .ok (.iadd, 1) := by decide +kernel
theorem dX10_read_121 : decode cX10_read 121 = .ok (.goto 5, 3) := by decide +kernel
theorem dX10_read_124 : decode cX10_read 124 = .ok (.iload 5, 2) := by decide +kernel
theorem dX10_read_126 : decode cX10_read 126 = .ok (.istore 6, 2) := by decide +kernel
theorem dX10_read_128 : decode cX10_read 128 = .ok (.aload_n 0, 1) := by decide +kernel
theorem dX10_read_129 : decode cX10_read 129 = .ok (.getfield 169, 3) := by decide +kernel
theorem dX10_read_132 : decode cX10_read 132 = .ok (.ifCond .ne 21, 3) := by decide +kernel
theorem dX10_read_135 : decode cX10_read 135 = .ok (.iload_n 3, 1) := by decide +kernel
theorem dX10_read_136 : decode cX10_read 136 = .ok (.ifCond .eq 17, 3) := by decide +kernel
theorem dX10_read_139 : decode cX10_read 139 = .ok (.iload 4, 2) := by decide +kernel
theorem dX10_read_141 : decode cX10_read 141 = .ok (.aload_n 0, 1) := by decide +kernel
theorem dX10_read_142 : decode cX10_read 142 = .ok (.getfield 178, 3) := by decide +kernel
theorem dX10_read_145 : decode cX10_read 145 = .ok (.if_icmp .le 8, 3) := by decide +kernel
theorem dX10_read_148 : decode cX10_read 148 = .ok (.aload_n 0, 1) := by decide +kernel
theorem dX10_read_149 : decode cX10_read 149 = .ok (.iconst 3, 1) := by decide +kernel
theorem dX10_read_150 : decode cX10_read 150 = .ok (.putfield 169, 3) := by decide +kernel
theorem dX10_read_153 : decode cX10_read 153 = .ok (.aload_n 0, 1) := by decide +kernel
theorem dX10_read_154 : decode cX10_read 154 = .ok (.getfield 169, 3) := by decide +kernel
theorem dX10_read_157 : decode cX10_read 157 = .ok (.ifCond .ne 17, 3) := by decide +kernel
theorem dX10_read_160 : decode cX10_read 160 = .ok (.iload_n 3, 1) := by decide +kernel
theorem dX10_read_161 : decode cX10_read 161 = .ok (.iconst 2, 1) := by decide +kernel
theorem dX10_read_162 : decode cX10_read 162 = .ok (.if_icmp .ne 12, 3) := by decide +kernel
theorem dX10_read_165 : decode cX10_read 165 = .ok (.iload_n 1, 1) := by decide +kernel
theorem dX10_read_166 : decode cX10_read 166 = .ok (.ifCond .ne 8, 3) := by decide +kernel
theorem dX10_read_169 : decode cX10_read 169 = .ok (.aload_n 0, 1) := by decide +kernel
theorem dX10_read_170 : decode cX10_read 170 = .ok (.iconst 4, 1) := by decide +kernel
theorem dX10_read_171 : decode cX10_read 171 = .ok (.putfield 169, 3) := by decide +kernel
theorem dX10_read_174 : decode cX10_read 174 = .ok (.aload_n 0, 1) := by decide +kernel
theorem dX10_read_175 : decode cX10_read 175 = .ok (.getfield 169, 3) := by decide +kernel
theorem dX10_read_178 : decode cX10_read 178 = .ok (.ifCond .ne 21, 3) := by decide +kernel
theorem dX10_read_181 : decode cX10_read 181 = .ok (.aload_n 0, 1) := by decide +kernel
theorem dX10_read_182 : decode cX10_read 182 = .ok (.getfield 178, 3) := by decide +kernel
theorem dX10_read_185 : decode cX10_read 185 = .ok (.iload 6, 2) := by decide +kernel
theorem dX10_read_187 : decode cX10_read 187 = .ok (.iadd, 1) := by decide +kernel
theorem dX10_read_188 : decode cX10_read 188 = .ok (.sipush 200, 3) := by decide +kernel
theorem dX10_read_191 : decode cX10_read 191 = .ok (.if_icmp .le 8, 3) := by decide +kernel
theorem dX10_read_194 : decode cX10_read 194 = .ok (.aload_n 0, 1) := by decide +kernel
theorem dX10_read_195 : decode cX10_read 195 = .ok (.iconst 5, 1) := by decide +kernel
theorem dX10_read_196 : decode cX10_read 196 = .ok (.putfield 169, 3) := by decide +kernel
theorem dX10_read_199 : decode cX10_read 199 = .ok (.aload_n 0, 1) := by decide +kernel
theorem dX10_read_200 : decode cX10_read 200 = .ok (.getfield 169, 3) := by decide +kernel
theorem dX10_read_203 : decode cX10_read 203 = .ok (.ifCond .eq 11, 3) := by decide +kernel
theorem dX10_read_206 : decode cX10_read 206 = .ok (.aload_n 0, 1) := by decide +kernel
theorem dX10_read_207 : decode cX10_read 207 = .ok (.iload_n 2, 1) := by decide +kernel
theorem dX10_read_208 : decode cX10_read 208 = .ok (.putfield 41, 3) := by decide +kernel
theorem dX10_read_211 : decode cX10_read 211 = .ok (.goto 39, 3) := by decide +kernel
theorem dX10_read_214 : decode cX10_read 214 = .ok (.iload_n 3, 1) := by decide +kernel
theorem dX10_read_215 : decode cX10_read 215 = .ok (.ifCond .eq 14, 3) := by decide +kernel
theorem dX10_read_218 : decode cX10_read 218 = .ok (.aload_n 0, 1) := by decide +kernel
theorem dX10_read_219 : decode cX10_read 219 = .ok (.iload 4, 2) := by decide +kernel
theorem dX10_read_221 : decode cX10_read 221 = .ok (.iload 6, 2) := by decide +kernel
theorem dX10_read_223 : decode cX10_read 223 = .ok (.invokevirtual 184, 3) := by decide +kernel
theorem dX10_read_226 : decode cX10_read 226 = .ok (.goto 24, 3) := by decide +kernel
theorem dX10_read_229 : decode cX10_read 229 = .ok (.aload_n 0, 1) := by decide +kernel
theorem dX10_read_230 : decode cX10_read 230 = .ok (.getfield 38, 3) := by decide +kernel
theorem dX10_read_233 : decode cX10_read 233 = .ok (.aload_n 0, 1) := by decide +kernel
theorem dX10_read_234 : decode cX10_read 234 = .ok (.getfield 178, 3) := by decide +kernel
theorem dX10_read_237 : decode cX10_read 237 = .ok (.iload 5, 2) := by decide +kernel
theorem dX10_read_239 : decode cX10_read 239 = .ok (.iastore, 1) := by decide +kernel
theorem dX10_read_240 : decode cX10_read 240 = .ok (.aload_n 0, 1) := by decide +kernel
theorem dX10_read_241 : decode cX10_read 241 = .ok (.dup, 1) := by decide +kernel
theorem dX10_read_242 : decode cX10_read 242 = .ok (.getfield 178, 3) := by decide +kernel
theorem dX10_read_245 : decode cX10_read 245 = .ok (.iconst 1, 1) := by decide +kernel
theorem dX10_read_246 : decode cX10_read 246 = .ok (.iadd, 1) := by decide +kernel
theorem dX10_read_247 : decode cX10_read 247 = .ok (.putfield 178, 3) := by decide +kernel
theorem dX10_read_250 : decode cX10_read 250 = .ok (.iload 4, 2) := by decide +kernel
theorem dX10_read_252 : decode cX10_read 252 = .ok (.istore_n 1, 1) := by decide +kernel
theorem dX10_read_253 : decode cX10_read 253 = .ok (.goto (-226), 3) := by decide +kernel
theorem dX10_read_256 : decode cX10_read 256 = .ok (.aload_n 0, 1) := by decide +kernel
theorem dX10_read_257 : decode cX10_read 257 = .ok (.getfield 169, 3) := by decide +kernel
theorem dX10_read_260 : decode cX10_read 260 = .ok (.ireturn, 1) := by decide +kernel
theorem dX10_errorPosition_0 : decode cX10_errorPosition 0 = .ok (.aload_n 0, 1) := by decide +kernel
theorem dX10_errorPosition_1 : decode cX10_errorPosition 1 = .ok (.iconst 0, 1) := by decide +kernel
theorem dX10_errorPosition_2 : decode cX10_errorPosition 2 = .ok (.putfield 65, 3) := by decide +kernel
theorem dX10_errorPosition_5 : decode cX10_errorPosition 5 = .ok (.aload_n 0, 1) := by decide +kernel
theorem dX10_errorPosition_6 : decode cX10_errorPosition 6 = .ok (.getfield 41, 3) := by decide +kernel
theorem dX10_errorPosition_9 : decode cX10_errorPosition 9 = .ok (.ireturn, 1) := by decide +kernel
theorem dX10_outputSize_0 : decode cX10_outputSize 0 = .ok (.aload_n 0, 1) := by decide +kernel
theorem dX10_outputSize_1 : decode cX10_outputSize 1 = .ok (.iconst 0, 1) := by decide +kernel
theorem dX10_outputSize_2 : decode cX10_outputSize 2 = .ok (.putfield 65, 3) := by decide +kernel
theorem dX10_outputSize_5 : decode cX10_outputSize 5 = .ok (.aload_n 0, 1) := by decide +kernel
theorem dX10_outputSize_6 : decode cX10_outputSize 6 = .ok (.getfield 178, 3) := by decide +kernel
theorem dX10_outputSize_9 : decode cX10_outputSize 9 = .ok (.ireturn, 1) := by decide +kernel
set_option maxRecDepth 20000 in
theorem ggX10_output_X10_isIn : GoodIn wsX10_output wsX10_isIn := goodIn_r _ [7] (by decide +kernel) (by decide +kernel)
set_option maxRecDepth 20000 in
theorem gX10_output_X10_isIn : GoodIn wsX10_output (va_wsS RX10 71 yX10_isIn wsX10_isIn) := goodIn_app (goodIn_of _ (by decide +kernel)) ggX10_output_X10_isIn
set_option maxRecDepth 20000 in
theorem ggX10_output_X10_no : GoodIn wsX10_output wsX10_no := goodIn_r _ [11, 1, 12, 13, 14, 15, 16, 17, 18, 19, 20, 21, 22, 23, 24, 25, 26, 27, 28, 29, 30, 31, 32, 33, 34, 35, 36, 37, 38] (by decide +kernel) (by decide +kernel)
set_option maxRecDepth 20000 in
theorem gX10_output_X10_no : GoodIn wsX10_output (wsV RX10 75 RX10 yX10_no wsX10_no) := goodIn_app (goodIn_of _ (by decide +kernel)) ggX10_output_X10_no
theorem dX10_output_0 : decode cX10_output 0 = .ok (.aload_n 0, 1) := by decide +kernel
theorem dX10_output_1 : decode cX10_output 1 = .ok (.iconst 0, 1) := by decide +kernel
theorem dX10_output_2 : decode cX10_output 2 = .ok (.putfield 65, 3) := by decide +kernel
theorem dX10_output_5 : decode cX10_output 5 = .ok (.iload_n 1, 1) := by decide +kernel
theorem dX10_output_6 : decode cX10_output 6 = .ok (.iconst 0, 1) := by decide +kernel
theorem dX10_output_7 : decode cX10_output 7 = .ok (.aload_n 0, 1) := by decide +kernel
theorem dX10_output_8 : decode cX10_output 8 = .ok (.getfield 178, 3) := by decide +kernel
theorem dX10_output_11 : decode cX10_output 11 = .ok (.iconst 1, 1) := by decide +kernel
theorem dX10_output_12 : decode cX10_output 12 = .ok (.isub, 1) := by decide +kernel
theorem dX10_output_13 : decode cX10_output 13 = .ok (.invokestatic 71, 3) := by decide +kernel
theorem dX10_output_16 : decode cX10_output 16 = .ok (.ifCond .eq 12, 3) := by decide +kernel
theorem dX10_output_19 : decode cX10_output 19 = .ok (.aload_n 0, 1) := by decide +kernel
theorem dX10_output_20 : decode cX10_output 20 = .ok (.getfield 38, 3) := by decide +kernel
theorem dX10_output_23 : decode cX10_output 23 = .ok (.iload_n 1, 1) := by decide +kernel
theorem dX10_output_24 : decode cX10_output 24 = .ok (.iaload, 1) := by decide +kernel
theorem dX10_output_25 : decode cX10_output 25 = .ok (.goto 8, 3) := by decide +kernel
theorem dX10_output_28 : decode cX10_output 28 = .ok (.aload_n 0, 1) := by decide +kernel
theorem dX10_output_29 : decode cX10_output 29 = .ok (.iconst 1, 1) := by decide +kernel
theorem dX10_output_30 : decode cX10_output 30 = .ok (.invokevirtual 75, 3) := by decide +kernel
theorem dX10_output_33 : decode cX10_output 33 = .ok (.ireturn, 1) := by decide +kernel
theorem dX10_differences_0 : decode cX10_differences 0 = .ok (.aload_n 0, 1) := by decide +kernel
theorem dX10_differences_1 : decode cX10_differences 1 = .ok (.iconst 0, 1) := by decide +kernel
theorem dX10_differences_2 : decode cX10_differences 2 = .ok (.putfield 65, 3) := by decide +kernel
theorem dX10_differences_5 : decode cX10_differences 5 = .ok (.aload_n 0, 1) := by decide +kernel
theorem dX10_differences_6 : decode cX10_differences 6 = .ok (.getfield 68, 3) := by decide +kernel
theorem dX10_differences_9 : decode cX10_differences 9 = .ok (.aload_n 0, 1) := by decide +kernel
theorem dX10_differences_10 : decode cX10_differences 10 = .ok (.getfield 178, 3) := by decide +kernel
theorem dX10_differences_13 : decode cX10_differences 13 = .ok (.isub, 1) := by decide +kernel
theorem dX10_differences_14 : decode cX10_differences 14 = .ok (.invokestatic 187, 3) := by decide +kernel
theorem dX10_differences_17 : decode cX10_differences 17 = .ok (.istore_n 1, 1) := by decide +kernel
theorem dX10_differences_18 : decode cX10_differences 18 = .ok (.iconst 0, 1) := by decide +kernel
theorem dX10_differences_19 : decode cX10_differences 19 = .ok (.istore_n 2, 1) := by decide +kernel
theorem dX10_differences_20 : decode cX10_differences 20 = .ok (.iload_n 2, 1) := by decide +kernel
theorem dX10_differences_21 : decode cX10_differences 21 = .ok (.aload_n 0, 1) := by decide +kernel
theorem dX10_differences_22 : decode cX10_differences 22 = .ok (.getfield 68, 3) := by decide +kernel
theorem dX10_differences_25 : decode cX10_differences 25 = .ok (.if_icmp .ge 40, 3) := by decide +kernel
theorem dX10_differences_28 : decode cX10_differences 28 = .ok (.iload_n 2, 1) := by decide +kernel
theorem dX10_differences_29 : decode cX10_differences 29 = .ok (.aload_n 0, 1) := by decide +kernel
theorem dX10_differences_30 : decode cX10_differences 30 = .ok (.getfield 178, 3) := by decide +kernel
theorem dX10_differences_33 : decode cX10_differences 33 = .ok (.if_icmp .ge 32, 3) := by decide +kernel
theorem dX10_differences_36 : decode cX10_differences 36 = .ok (.iload_n 1, 1) := by decide +kernel
theorem dX10_differences_37 : decode cX10_differences 37 = .ok (.aload_n 0, 1) := by decide +kernel
theorem dX10_differences_38 : decode cX10_differences 38 = .ok (.getfield 9, 3) := by decide +kernel
theorem dX10_differences_41 : decode cX10_differences 41 = .ok (.iload_n 2, 1) := by decide +kernel
theorem dX10_differences_42 : decode cX10_differences 42 = .ok (.iaload, 1) := by decide +kernel
theorem dX10_differences_43 : decode cX10_differences 43 = .ok (.aload_n 0, 1) := by decide +kernel
theorem dX10_differences_44 : decode cX10_differences 44 = .ok (.getfield 38, 3) := by decide +kernel
theorem dX10_differences_47 : decode cX10_differences 47 = .ok (.iload_n 2, 1) := by decide +kernel
theorem dX10_differences_48 : decode cX10_differences 48 = .ok (.iaload, 1) := by decide +kernel
theorem dX10_differences_49 : decode cX10_differences 49 = .ok (.if_icmp .ne 7, 3) := by decide +kernel
theorem dX10_differences_52 : decode cX10_differences 52 = .ok (.iconst 0, 1) := by decide +kernel
theorem dX10_differences_53 : decode cX10_differences 53 = .ok (.goto 4, 3) := by decide +kernel
theorem dX10_differences_56 : decode cX10_differences 56 = .ok (.iconst 1, 1) := by decide +kernel
theorem dX10_differences_57 : decode cX10_differences 57 = .ok (.iadd, 1) := by decide +kernel
theorem dX10_differences_58 : decode cX10_differences 58 = .ok (.istore_n 1, 1) := by decide +kernel
theorem dX10_differences_59 : decode cX10_differences 59 = .ok (.iinc 2 1, 3) := by decide +kernel
theorem dX10_differences_62 : decode cX10_differences 62 = .ok (.goto (-42), 3) := by decide +kernel
theorem dX10_differences_65 : decode cX10_differences 65 = .ok (.iload_n 1, 1) := by decide +kernel
theorem dX10_differences_66 : decode cX10_differences 66 = .ok (.ireturn, 1) := by decide +kernel
theorem dX10_digest_0 : decode cX10_digest 0 = .ok (.aload_n 0, 1) := by decide +kernel
theorem dX10_digest_1 : decode cX10_digest 1 = .ok (.iconst 0, 1) := by decide +kernel
theorem dX10_digest_2 : decode cX10_digest 2 = .ok (.putfield 65, 3) := by decide +kernel
theorem dX10_digest_5 : decode cX10_digest 5 = .ok (.ldc2_w 190, 3) := by decide +kernel
theorem dX10_digest_8 : decode cX10_digest 8 = .ok (.aload_n 0, 1) := by decide +kernel
theorem dX10_digest_9 : decode cX10_digest 9 = .ok (.getfield 68, 3) := by decide +kernel
theorem dX10_digest_12 : decode cX10_digest 12 = .ok (.i2l, 1) := by decide +kernel
theorem dX10_digest_13 : decode cX10_digest 13 = .ok (.ladd, 1) := by decide +kernel
theorem dX10_digest_14 : decode cX10_digest 14 = .ok (.lstore_n 1, 1) := by decide +kernel
theorem dX10_digest_15 : decode cX10_digest 15 = .ok (.iconst 0, 1) := by decide +kernel
theorem dX10_digest_16 : decode cX10_digest 16 = .ok (.istore_n 3, 1) := by decide +kernel
theorem dX10_digest_17 : decode cX10_digest 17 = .ok (.iload_n 3, 1) := by decide +kernel
theorem dX10_digest_18 : decode cX10_digest 18 = .ok (.aload_n 0, 1) := by decide +kernel
theorem dX10_digest_19 : decode cX10_digest 19 = .ok (.getfield 68, 3) := by decide +kernel
theorem dX10_digest_22 : decode cX10_digest 22 = .ok (.if_icmp .ge 23, 3) := by decide +kernel
theorem dX10_digest_25 : decode cX10_digest 25 = .ok (.lload_n 1, 1) := by decide +kernel
theorem dX10_digest_26 : decode cX10_digest 26 = .ok (.ldc2_w 192, 3) := by decide +kernel
theorem dX10_digest_29 : decode cX10_digest 29 = .ok (.lmul, 1) := by decide +kernel
theorem dX10_digest_30 : decode cX10_digest 30 = .ok (.aload_n 0, 1) := by decide +kernel
theorem dX10_digest_31 : decode cX10_digest 31 = .ok (.getfield 9, 3) := by decide +kernel
theorem dX10_digest_34 : decode cX10_digest 34 = .ok (.iload_n 3, 1) := by decide +kernel
theorem dX10_digest_35 : decode cX10_digest 35 = .ok (.iaload, 1) := by decide +kernel
theorem dX10_digest_36 : decode cX10_digest 36 = .ok (.i2l, 1) := by decide +kernel
theorem dX10_digest_37 : decode cX10_digest 37 = .ok (.ladd, 1) := by decide +kernel
theorem dX10_digest_38 : decode cX10_digest 38 = .ok (.lstore_n 1, 1) := by decide +kernel
theorem dX10_digest_39 : decode cX10_digest 39 = .ok (.iinc 3 1, 3) := by decide +kernel
theorem dX10_digest_42 : decode cX10_digest 42 = .ok (.goto (-25), 3) := by decide +kernel
theorem dX10_digest_45 : decode cX10_digest 45 = .ok (.lload_n 1, 1) := by decide +kernel
theorem dX10_digest_46 : decode cX10_digest 46 = .ok (.ldc2_w 192, 3) := by decide +kernel
theorem dX10_digest_49 : decode cX10_digest 49 = .ok (.lmul, 1) := by decide +kernel
theorem dX10_digest_50 : decode cX10_digest 50 = .ok (.aload_n 0, 1) := by decide +kernel
theorem dX10_digest_51 : decode cX10_digest 51 = .ok (.getfield 13, 3) := by decide +kernel
theorem dX10_digest_54 : decode cX10_digest 54 = .ok (.i2l, 1) := by decide +kernel
theorem dX10_digest_55 : decode cX10_digest 55 = .ok (.ladd, 1) := by decide +kernel
theorem dX10_digest_56 : decode cX10_digest 56 = .ok (.ldc2_w 192, 3) := by decide +kernel
theorem dX10_digest_59 : decode cX10_digest 59 = .ok (.lmul, 1) := by decide +kernel
theorem dX10_digest_60 : decode cX10_digest 60 = .ok (.aload_n 0, 1) := by decide +kernel
theorem dX10_digest_61 : decode cX10_digest 61 = .ok (.getfield 17, 3) := by decide +kernel
theorem dX10_digest_64 : decode cX10_digest 64 = .ok (.i2l, 1) := by decide +kernel
theorem dX10_digest_65 : decode cX10_digest 65 = .ok (.ladd, 1) := by decide +kernel
theorem dX10_digest_66 : decode cX10_digest 66 = .ok (.ldc2_w 192, 3) := by decide +kernel
theorem dX10_digest_69 : decode cX10_digest 69 = .ok (.lmul, 1) := by decide +kernel
theorem dX10_digest_70 : decode cX10_digest 70 = .ok (.aload_n 0, 1) := by decide +kernel
theorem dX10_digest_71 : decode cX10_digest 71 = .ok (.getfield 20, 3) := by decide +kernel
theorem dX10_digest_74 : decode cX10_digest 74 = .ok (.i2l, 1) := by decide +kernel
theorem dX10_digest_75 : decode cX10_digest 75 = .ok (.ladd, 1) := by decide +kernel
theorem dX10_digest_76 : decode cX10_digest 76 = .ok (.ldc2_w 192, 3) := by decide +kernel
theorem dX10_digest_79 : decode cX10_digest 79 = .ok (.lmul, 1) := by decide +kernel
theorem dX10_digest_80 : decode cX10_digest 80 = .ok (.aload_n 0, 1) := by decide +kernel
theorem dX10_digest_81 : decode cX10_digest 81 = .ok (.getfield 89, 3) := by decide +kernel
theorem dX10_digest_84 : decode cX10_digest 84 = .ok (.i2l, 1) := by decide +kernel
theorem dX10_digest_85 : decode cX10_digest 85 = .ok (.ladd, 1) := by decide +kernel
theorem dX10_digest_86 : decode cX10_digest 86 = .ok (.lstore_n 1, 1) := by decide +kernel
theorem dX10_digest_87 : decode cX10_digest 87 = .ok (.aload_n 0, 1) := by decide +kernel
theorem dX10_digest_88 : decode cX10_digest 88 = .ok (.getfield 81, 3) := by decide +kernel
theorem dX10_digest_91 : decode cX10_digest 91 = .ok (.ifCond .eq 69, 3) := by decide +kernel
theorem dX10_digest_94 : decode cX10_digest 94 = .ok (.lload_n 1, 1) := by decide +kernel
theorem dX10_digest_95 : decode cX10_digest 95 = .ok (.ldc2_w 192, 3) := by decide +kernel
theorem dX10_digest_98 : decode cX10_digest 98 = .ok (.lmul, 1) := by decide +kernel
theorem dX10_digest_99 : decode cX10_digest 99 = .ok (.aload_n 0, 1) := by decide +kernel
theorem dX10_digest_100 : decode cX10_digest 100 = .ok (.getfield 119, 3) := by decide +kernel
theorem dX10_digest_103 : decode cX10_digest 103 = .ok (.i2l, 1) := by decide +kernel
theorem dX10_digest_104 : decode cX10_digest 104 = .ok (.ladd, 1) := by decide +kernel
theorem dX10_digest_105 : decode cX10_digest 105 = .ok (.lstore_n 1, 1) := by decide +kernel
theorem dX10_digest_106 : decode cX10_digest 106 = .ok (.iconst 0, 1) := by decide +kernel
theorem dX10_digest_107 : decode cX10_digest 107 = .ok (.istore_n 3, 1) := by decide +kernel
theorem dX10_digest_108 : decode cX10_digest 108 = .ok (.iload_n 3, 1) := by decide +kernel
theorem dX10_digest_109 : decode cX10_digest 109 = .ok (.aload_n 0, 1) := by decide +kernel
theorem dX10_digest_110 : decode cX10_digest 110 = .ok (.getfield 119, 3) := by decide +kernel
theorem dX10_digest_113 : decode cX10_digest 113 = .ok (.if_icmp .ge 47, 3) := by decide +kernel
theorem dX10_digest_116 : decode cX10_digest 116 = .ok (.lload_n 1, 1) := by decide +kernel
theorem dX10_digest_117 : decode cX10_digest 117 = .ok (.ldc2_w 192, 3) := by decide +kernel
theorem dX10_digest_120 : decode cX10_digest 120 = .ok (.lmul, 1) := by decide +kernel
theorem dX10_digest_121 : decode cX10_digest 121 = .ok (.aload_n 0, 1) := by decide +kernel
theorem dX10_digest_122 : decode cX10_digest 122 = .ok (.getfield 23, 3) := by decide +kernel
theorem dX10_digest_125 : decode cX10_digest 125 = .ok (.iload_n 3, 1) := by decide +kernel
theorem dX10_digest_126 : decode cX10_digest 126 = .ok (.iaload, 1) := by decide +kernel
theorem dX10_digest_127 : decode cX10_digest 127 = .ok (.i2l, 1) := by decide +kernel
theorem dX10_digest_128 : decode cX10_digest 128 = .ok (.ladd, 1) := by decide +kernel
theorem dX10_digest_129 : decode cX10_digest 129 = .ok (.ldc2_w 192, 3) := by decide +kernel
theorem dX10_digest_132 : decode cX10_digest 132 = .ok (.lmul, 1) := by decide +kernel
theorem dX10_digest_133 : decode cX10_digest 133 = .ok (.aload_n 0, 1) := by decide +kernel
theorem dX10_digest_134 : decode cX10_digest 134 = .ok (.getfield 26, 3) := by decide +kernel
theorem dX10_digest_137 : decode cX10_digest 137 = .ok (.iload_n 3, 1) := by decide +kernel
theorem dX10_digest_138 : decode cX10_digest 138 = .ok (.iaload, 1) := by decide +kernel
theorem dX10_digest_139 : decode cX10_digest 139 = .ok (.i2l, 1) := by decide +kernel
theorem dX10_digest_140 : decode cX10_digest 140 = .ok (.ladd, 1) := by decide +kernel
theorem dX10_digest_141 : decode cX10_digest 141 = .ok (.ldc2_w 192, 3) := by decide +kernel
theorem dX10_digest_144 : decode cX10_digest 144 = .ok (.lmul, 1) := by decide +kernel
theorem dX10_digest_145 : decode cX10_digest 145 = .ok (.aload_n 0, 1) := by decide +kernel
theorem dX10_digest_146 : decode cX10_digest 146 = .ok (.getfield 29, 3) := by decide +kernel
theorem dX10_digest_149 : decode cX10_digest 149 = .ok (.iload_n 3, 1) := by decide +kernel
theorem dX10_digest_150 : decode cX10_digest 150 = .ok (.iaload, 1) := by decide +kernel
theorem dX10_digest_151 : decode cX10_digest 151 = .ok (.i2l, 1) := by decide +kernel
theorem dX10_digest_152 : decode cX10_digest 152 = .ok (.ladd, 1) := by decide +kernel
theorem dX10_digest_153 : decode cX10_digest 153 = .ok (.lstore_n 1, 1) := by decide +kernel
theorem dX10_digest_154 : decode cX10_digest 154 = .ok (.iinc 3 1, 3) := by decide +kernel
theorem dX10_digest_157 : decode cX10_digest 157 = .ok (.goto (-49), 3) := by decide +kernel
theorem dX10_digest_160 : decode cX10_digest 160 = .ok (.lload_n 1, 1) := by decide +kernel
theorem dX10_digest_161 : decode cX10_digest 161 = .ok (.ldc2_w 192, 3) := by decide +kernel
theorem dX10_digest_164 : decode cX10_digest 164 = .ok (.lmul, 1) := by decide +kernel
theorem dX10_digest_165 : decode cX10_digest 165 = .ok (.aload_n 0, 1) := by decide +kernel
theorem dX10_digest_166 : decode cX10_digest 166 = .ok (.getfield 160, 3) := by decide +kernel
theorem dX10_digest_169 : decode cX10_digest 169 = .ok (.i2l, 1) := by decide +kernel
theorem dX10_digest_170 : decode cX10_digest 170 = .ok (.ladd, 1) := by decide +kernel
theorem dX10_digest_171 : decode cX10_digest 171 = .ok (.lstore_n 1, 1) := by decide +kernel
theorem dX10_digest_172 : decode cX10_digest 172 = .ok (.iconst 0, 1) := by decide +kernel
theorem dX10_digest_173 : decode cX10_digest 173 = .ok (.istore_n 3, 1) := by decide +kernel
theorem dX10_digest_174 : decode cX10_digest 174 = .ok (.iload_n 3, 1) := by decide +kernel
theorem dX10_digest_175 : decode cX10_digest 175 = .ok (.aload_n 0, 1) := by decide +kernel
theorem dX10_digest_176 : decode cX10_digest 176 = .ok (.getfield 160, 3) := by decide +kernel
theorem dX10_digest_179 : decode cX10_digest 179 = .ok (.if_icmp .ge 23, 3) := by decide +kernel
theorem dX10_digest_182 : decode cX10_digest 182 = .ok (.lload_n 1, 1) := by decide +kernel
theorem dX10_digest_183 : decode cX10_digest 183 = .ok (.ldc2_w 192, 3) := by decide +kernel
theorem dX10_digest_186 : decode cX10_digest 186 = .ok (.lmul, 1) := by decide +kernel
theorem dX10_digest_187 : decode cX10_digest 187 = .ok (.aload_n 0, 1) := by decide +kernel
theorem dX10_digest_188 : decode cX10_digest 188 = .ok (.getfield 35, 3) := by decide +kernel
theorem dX10_digest_191 : decode cX10_digest 191 = .ok (.iload_n 3, 1) := by decide +kernel
theorem dX10_digest_192 : decode cX10_digest 192 = .ok (.iaload, 1) := by decide +kernel
theorem dX10_digest_193 : decode cX10_digest 193 = .ok (.i2l, 1) := by decide +kernel
theorem dX10_digest_194 : decode cX10_digest 194 = .ok (.ladd, 1) := by decide +kernel
theorem dX10_digest_195 : decode cX10_digest 195 = .ok (.lstore_n 1, 1) := by decide +kernel
theorem dX10_digest_196 : decode cX10_digest 196 = .ok (.iinc 3 1, 3) := by decide +kernel
theorem dX10_digest_199 : decode cX10_digest 199 = .ok (.goto (-25), 3) := by decide +kernel
theorem dX10_digest_202 : decode cX10_digest 202 = .ok (.lload_n 1, 1) := by decide +kernel
theorem dX10_digest_203 : decode cX10_digest 203 = .ok (.ldc2_w 192, 3) := by decide +kernel
theorem dX10_digest_206 : decode cX10_digest 206 = .ok (.lmul, 1) := by decide +kernel
theorem dX10_digest_207 : decode cX10_digest 207 = .ok (.aload_n 0, 1) := by decide +kernel
theorem dX10_digest_208 : decode cX10_digest 208 = .ok (.getfield 178, 3) := by decide +kernel
theorem dX10_digest_211 : decode cX10_digest 211 = .ok (.i2l, 1) := by decide +kernel
theorem dX10_digest_212 : decode cX10_digest 212 = .ok (.ladd, 1) := by decide +kernel
theorem dX10_digest_213 : decode cX10_digest 213 = .ok (.lstore_n 1, 1) := by decide +kernel
theorem dX10_digest_214 : decode cX10_digest 214 = .ok (.iconst 0, 1) := by decide +kernel
theorem dX10_digest_215 : decode cX10_digest 215 = .ok (.istore_n 3, 1) := by decide +kernel
theorem dX10_digest_216 : decode cX10_digest 216 = .ok (.iload_n 3, 1) := by decide +kernel
theorem dX10_digest_217 : decode cX10_digest 217 = .ok (.aload_n 0, 1) := by decide +kernel
theorem dX10_digest_218 : decode cX10_digest 218 = .ok (.getfield 178, 3) := by decide +kernel
theorem dX10_digest_221 : decode cX10_digest 221 = .ok (.if_icmp .ge 23, 3) := by decide +kernel
theorem dX10_digest_224 : decode cX10_digest 224 = .ok (.lload_n 1, 1) := by decide +kernel
theorem dX10_digest_225 : decode cX10_digest 225 = .ok (.ldc2_w 192, 3) := by decide +kernel
theorem dX10_digest_228 : decode cX10_digest 228 = .ok (.lmul, 1) := by decide +kernel
theorem dX10_digest_229 : decode cX10_digest 229 = .ok (.aload_n 0, 1) := by decide +kernel
theorem dX10_digest_230 : decode cX10_digest 230 = .ok (.getfield 38, 3) := by decide +kernel
theorem dX10_digest_233 : decode cX10_digest 233 = .ok (.iload_n 3, 1) := by decide +kernel
theorem dX10_digest_234 : decode cX10_digest 234 = .ok (.iaload, 1) := by decide +kernel
theorem dX10_digest_235 : decode cX10_digest 235 = .ok (.i2l, 1) := by decide +kernel
theorem dX10_digest_236 : decode cX10_digest 236 = .ok (.ladd, 1) := by decide +kernel
theorem dX10_digest_237 : decode cX10_digest 237 = .ok (.lstore_n 1, 1) := by decide +kernel
theorem dX10_digest_238 : decode cX10_digest 238 = .ok (.iinc 3 1, 3) := by decide +kernel
theorem dX10_digest_241 : decode cX10_digest 241 = .ok (.goto (-25), 3) := by decide +kernel
theorem dX10_digest_244 : decode cX10_digest 244 = .ok (.lload_n 1, 1) := by decide +kernel
theorem dX10_digest_245 : decode cX10_digest 245 = .ok (.lreturn, 1) := by decide +kernel
theorem dJ9_abs_0f7a4_0 : decode cJ9_abs_0f7a4 0 = .ok (.iload_n 0, 1) := by decide +kernel
theorem dJ9_abs_0f7a4_1 : decode cJ9_abs_0f7a4 1 = .ok (.ifCond .ge 8, 3) := by decide +kernel
theorem dJ9_abs_0f7a4_4 : decode cJ9_abs_0f7a4 4 = .ok (.iload_n 0, 1) := by decide +kernel
theorem dJ9_abs_0f7a4_5 : decode cJ9_abs_0f7a4 5 = .ok (.ineg, 1) := by decide +kernel
theorem dJ9_abs_0f7a4_6 : decode cJ9_abs_0f7a4 6 = .ok (.goto 4, 3) := by decide +kernel
theorem dJ9_abs_0f7a4_9 : decode cJ9_abs_0f7a4 9 = .ok (.iload_n 0, 1) := by decide +kernel
theorem dJ9_abs_0f7a4_10 : decode cJ9_abs_0f7a4 10 = .ok (.ireturn, 1) := by decide +kernel
theorem dJ9_max_7cf53_0 : decode cJ9_max_7cf53 0 = .ok (.iload_n 0, 1) := by decide +kernel
theorem dJ9_max_7cf53_1 : decode cJ9_max_7cf53 1 = .ok (.iload_n 1, 1) := by decide +kernel
theorem dJ9_max_7cf53_2 : decode cJ9_max_7cf53 2 = .ok (.if_icmp .lt 7, 3) := by decide +kernel
theorem dJ9_max_7cf53_5 : decode cJ9_max_7cf53 5 = .ok (.iload_n 0, 1) := by decide +kernel
theorem dJ9_max_7cf53_6 : decode cJ9_max_7cf53 6 = .ok (.goto 4, 3) := by decide +kernel
theorem dJ9_max_7cf53_9 : decode cJ9_max_7cf53 9 = .ok (.iload_n 1, 1) := by decide +kernel
theorem dJ9_max_7cf53_10 : decode cJ9_max_7cf53 10 = .ok (.ireturn, 1) := by decide +kernel
theorem dJ9_min_7cf53_0 : decode cJ9_min_7cf53 0 = .ok (.iload_n 0, 1) := by decide +kernel
theorem dJ9_min_7cf53_1 : decode cJ9_min_7cf53 1 = .ok (.iload_n 1, 1) := by decide +kernel
theorem dJ9_min_7cf53_2 : decode cJ9_min_7cf53 2 = .ok (.if_icmp .gt 7, 3) := by decide +kernel
theorem dJ9_min_7cf53_5 : decode cJ9_min_7cf53 5 = .ok (.iload_n 0, 1) := by decide +kernel
theorem dJ9_min_7cf53_6 : decode cJ9_min_7cf53 6 = .ok (.goto 4, 3) := by decide +kernel
theorem dJ9_min_7cf53_9 : decode cJ9_min_7cf53 9 = .ok (.iload_n 1, 1) := by decide +kernel
theorem dJ9_min_7cf53_10 : decode cJ9_min_7cf53 10 = .ok (.ireturn, 1) := by decide +kernel
