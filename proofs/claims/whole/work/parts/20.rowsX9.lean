set_option maxRecDepth 20000 in
theorem ggX9_init_X8_init : GoodIn wsX9_init wsX8_init := goodIn_r _ [37, 38, 2, 3, 39, 40, 41, 94, 95] (by decide +kernel) (by decide +kernel)
set_option maxRecDepth 20000 in
theorem gX9_init_X8_init_n9 : GoodIn wsX9_init (wsX8_init) := ggX9_init_X8_init
set_option maxRecDepth 20000 in
theorem ggX9_init_X7_init : GoodIn wsX9_init wsX7_init := goodIn_r _ [43, 44, 2, 3, 45, 46, 47, 48, 104, 105, 106, 107] (by decide +kernel) (by decide +kernel)
set_option maxRecDepth 20000 in
theorem gX9_init_X7_init_n18 : GoodIn wsX9_init (wsX7_init) := ggX9_init_X7_init
set_option maxRecDepth 20000 in
theorem ggX9_init_X3_init : GoodIn wsX9_init wsX3_init := goodIn_r _ [51, 52, 2, 3, 53, 54, 108, 109] (by decide +kernel) (by decide +kernel)
set_option maxRecDepth 20000 in
theorem gX9_init_X3_init : GoodIn wsX9_init (wsX3_init) := ggX9_init_X3_init
set_option maxRecDepth 20000 in
theorem ggX9_init_X5_init : GoodIn wsX9_init wsX5_init := goodIn_r _ [57, 58, 2, 3, 59, 60, 110, 111] (by decide +kernel) (by decide +kernel)
set_option maxRecDepth 20000 in
theorem gX9_init_X5_init : GoodIn wsX9_init (wsX5_init) := ggX9_init_X5_init
set_option maxRecDepth 20000 in
theorem ggX9_init_X0_init : GoodIn wsX9_init wsX0_init := goodIn_r _ [63, 64, 2, 3, 39, 65, 66, 67, 68, 69, 70, 71, 112, 113, 114, 115, 116, 117, 118] (by decide +kernel) (by decide +kernel)
set_option maxRecDepth 20000 in
theorem gX9_init_X0_init : GoodIn wsX9_init (wsX0_init) := ggX9_init_X0_init
set_option maxRecDepth 20000 in
theorem ggX9_init_X4_init : GoodIn wsX9_init wsX4_init := goodIn_r _ [73, 74, 2, 3, 39, 75, 76, 77, 78, 79, 80, 119, 120, 121, 122, 123, 124] (by decide +kernel) (by decide +kernel)
set_option maxRecDepth 20000 in
theorem gX9_init_X4_init_n50 : GoodIn wsX9_init (wsX4_init) := ggX9_init_X4_init
set_option maxRecDepth 20000 in
theorem ggX9_init_X1_init : GoodIn wsX9_init wsX1_init := goodIn_r _ [82, 83, 2, 3, 39, 84, 85, 125, 126] (by decide +kernel) (by decide +kernel)
set_option maxRecDepth 20000 in
theorem gX9_init_X1_init_n57 : GoodIn wsX9_init (wsX1_init) := ggX9_init_X1_init
set_option maxRecDepth 20000 in
theorem ggX9_init_X6_init : GoodIn wsX9_init wsX6_init := goodIn_r _ [87, 88, 2, 3, 39, 89, 90, 91, 92, 93, 127, 128, 129, 130, 131] (by decide +kernel) (by decide +kernel)
set_option maxRecDepth 20000 in
theorem gX9_init_X6_init_n64 : GoodIn wsX9_init (wsX6_init) := ggX9_init_X6_init
theorem dX9_init_0 : decode cX9_init 0 = .ok (.aload_n 0, 1) := by decide +kernel
theorem dX9_init_1 : decode cX9_init 1 = .ok (.invokespecial 1, 3) := by decide +kernel
theorem dX9_init_4 : decode cX9_init 4 = .ok (.aload_n 0, 1) := by decide +kernel
theorem dX9_init_5 : decode cX9_init 5 = .ok (.new 7, 3) := by decide +kernel
theorem dX9_init_8 : decode cX9_init 8 = .ok (.dup, 1) := by decide +kernel
theorem dX9_init_9 : decode cX9_init 9 = .ok (.invokespecial 9, 3) := by decide +kernel
theorem dX9_init_12 : decode cX9_init 12 = .ok (.putfield 10, 3) := by decide +kernel
theorem dX9_init_15 : decode cX9_init 15 = .ok (.aload_n 0, 1) := by decide +kernel
theorem dX9_init_16 : decode cX9_init 16 = .ok (.new 16, 3) := by decide +kernel
theorem dX9_init_19 : decode cX9_init 19 = .ok (.dup, 1) := by decide +kernel
theorem dX9_init_20 : decode cX9_init 20 = .ok (.invokespecial 18, 3) := by decide +kernel
theorem dX9_init_23 : decode cX9_init 23 = .ok (.putfield 19, 3) := by decide +kernel
theorem dX9_init_26 : decode cX9_init 26 = .ok (.aload_n 0, 1) := by decide +kernel
theorem dX9_init_27 : decode cX9_init 27 = .ok (.new 23, 3) := by decide +kernel
theorem dX9_init_30 : decode cX9_init 30 = .ok (.dup, 1) := by decide +kernel
theorem dX9_init_31 : decode cX9_init 31 = .ok (.aload_n 0, 1) := by decide +kernel
theorem dX9_init_32 : decode cX9_init 32 = .ok (.getfield 10, 3) := by decide +kernel
theorem dX9_init_35 : decode cX9_init 35 = .ok (.aload_n 0, 1) := by decide +kernel
theorem dX9_init_36 : decode cX9_init 36 = .ok (.getfield 19, 3) := by decide +kernel
theorem dX9_init_39 : decode cX9_init 39 = .ok (.invokespecial 25, 3) := by decide +kernel
theorem dX9_init_42 : decode cX9_init 42 = .ok (.putfield 28, 3) := by decide +kernel
theorem dX9_init_45 : decode cX9_init 45 = .ok (.aload_n 0, 1) := by decide +kernel
theorem dX9_init_46 : decode cX9_init 46 = .ok (.new 32, 3) := by decide +kernel
theorem dX9_init_49 : decode cX9_init 49 = .ok (.dup, 1) := by decide +kernel
theorem dX9_init_50 : decode cX9_init 50 = .ok (.aload_n 0, 1) := by decide +kernel
theorem dX9_init_51 : decode cX9_init 51 = .ok (.getfield 10, 3) := by decide +kernel
theorem dX9_init_54 : decode cX9_init 54 = .ok (.aload_n 0, 1) := by decide +kernel
theorem dX9_init_55 : decode cX9_init 55 = .ok (.getfield 28, 3) := by decide +kernel
theorem dX9_init_58 : decode cX9_init 58 = .ok (.invokespecial 34, 3) := by decide +kernel
theorem dX9_init_61 : decode cX9_init 61 = .ok (.putfield 37, 3) := by decide +kernel
theorem dX9_init_64 : decode cX9_init 64 = .ok (.aload_n 0, 1) := by decide +kernel
theorem dX9_init_65 : decode cX9_init 65 = .ok (.new 41, 3) := by decide +kernel
theorem dX9_init_68 : decode cX9_init 68 = .ok (.dup, 1) := by decide +kernel
theorem dX9_init_69 : decode cX9_init 69 = .ok (.aload_n 0, 1) := by decide +kernel
theorem dX9_init_70 : decode cX9_init 70 = .ok (.getfield 10, 3) := by decide +kernel
theorem dX9_init_73 : decode cX9_init 73 = .ok (.aload_n 0, 1) := by decide +kernel
theorem dX9_init_74 : decode cX9_init 74 = .ok (.getfield 19, 3) := by decide +kernel
theorem dX9_init_77 : decode cX9_init 77 = .ok (.invokespecial 43, 3) := by decide +kernel
theorem dX9_init_80 : decode cX9_init 80 = .ok (.putfield 44, 3) := by decide +kernel
theorem dX9_init_83 : decode cX9_init 83 = .ok (.aload_n 0, 1) := by decide +kernel
theorem dX9_init_84 : decode cX9_init 84 = .ok (.new 48, 3) := by decide +kernel
theorem dX9_init_87 : decode cX9_init 87 = .ok (.dup, 1) := by decide +kernel
theorem dX9_init_88 : decode cX9_init 88 = .ok (.invokespecial 50, 3) := by decide +kernel
theorem dX9_init_91 : decode cX9_init 91 = .ok (.putfield 51, 3) := by decide +kernel
theorem dX9_init_94 : decode cX9_init 94 = .ok (.aload_n 0, 1) := by decide +kernel
theorem dX9_init_95 : decode cX9_init 95 = .ok (.new 55, 3) := by decide +kernel
theorem dX9_init_98 : decode cX9_init 98 = .ok (.dup, 1) := by decide +kernel
theorem dX9_init_99 : decode cX9_init 99 = .ok (.invokespecial 57, 3) := by decide +kernel
theorem dX9_init_102 : decode cX9_init 102 = .ok (.putfield 58, 3) := by decide +kernel
theorem dX9_init_105 : decode cX9_init 105 = .ok (.aload_n 0, 1) := by decide +kernel
theorem dX9_init_106 : decode cX9_init 106 = .ok (.new 62, 3) := by decide +kernel
theorem dX9_init_109 : decode cX9_init 109 = .ok (.dup, 1) := by decide +kernel
theorem dX9_init_110 : decode cX9_init 110 = .ok (.invokespecial 64, 3) := by decide +kernel
theorem dX9_init_113 : decode cX9_init 113 = .ok (.putfield 65, 3) := by decide +kernel
theorem dX9_init_116 : decode cX9_init 116 = .ok (.return_, 1) := by decide +kernel
set_option maxRecDepth 20000 in
theorem ggX9_feed_X8_push : GoodIn wsX9_feed wsX8_push := goodIn_r _ [13, 14, 15, 31, 32] (by decide +kernel) (by decide +kernel)
set_option maxRecDepth 20000 in
theorem gX9_feed_X8_push : GoodIn wsX9_feed (wsV RX9 87 RX8 yX8_push wsX8_push) := goodIn_app (goodIn_of _ (by decide +kernel)) ggX9_feed_X8_push
set_option maxRecDepth 20000 in
theorem ggX9_feed_X4_forget : GoodIn wsX9_feed wsX4_forget := goodIn_r _ [20, 21, 22, 33, 34, 35, 36, 37, 38] (by decide +kernel) (by decide +kernel)
set_option maxRecDepth 20000 in
theorem gX9_feed_X4_forget : GoodIn wsX9_feed (wsV RX9 91 RX4 yX4_forget wsX4_forget) := goodIn_app (goodIn_of _ (by decide +kernel)) ggX9_feed_X4_forget
theorem dX9_feed_0 : decode cX9_feed 0 = .ok (.iload_n 3, 1) := by decide +kernel
theorem dX9_feed_1 : decode cX9_feed 1 = .ok (.iconst 1, 1) := by decide +kernel
theorem dX9_feed_2 : decode cX9_feed 2 = .ok (.if_icmp .lt 9, 3) := by decide +kernel
theorem dX9_feed_5 : decode cX9_feed 5 = .ok (.iload_n 3, 1) := by decide +kernel
theorem dX9_feed_6 : decode cX9_feed 6 = .ok (.bipush 8, 2) := by decide +kernel
theorem dX9_feed_8 : decode cX9_feed 8 = .ok (.if_icmp .le 13, 3) := by decide +kernel
theorem dX9_feed_11 : decode cX9_feed 11 = .ok (.new 69, 3) := by decide +kernel
theorem dX9_feed_14 : decode cX9_feed 14 = .ok (.dup, 1) := by decide +kernel
theorem dX9_feed_15 : decode cX9_feed 15 = .ok (.ldc 71, 2) := by decide +kernel
theorem dX9_feed_17 : decode cX9_feed 17 = .ok (.invokespecial 73, 3) := by decide +kernel
theorem dX9_feed_20 : decode cX9_feed 20 = .ok (.athrow, 1) := by decide +kernel
theorem dX9_feed_21 : decode cX9_feed 21 = .ok (.aload_n 0, 1) := by decide +kernel
theorem dX9_feed_22 : decode cX9_feed 22 = .ok (.getfield 10, 3) := by decide +kernel
theorem dX9_feed_25 : decode cX9_feed 25 = .ok (.getfield 76, 3) := by decide +kernel
theorem dX9_feed_28 : decode cX9_feed 28 = .ok (.iload_n 3, 1) := by decide +kernel
theorem dX9_feed_29 : decode cX9_feed 29 = .ok (.iadd, 1) := by decide +kernel
theorem dX9_feed_30 : decode cX9_feed 30 = .ok (.bipush 64, 2) := by decide +kernel
theorem dX9_feed_32 : decode cX9_feed 32 = .ok (.if_icmp .le 13, 3) := by decide +kernel
theorem dX9_feed_35 : decode cX9_feed 35 = .ok (.new 80, 3) := by decide +kernel
theorem dX9_feed_38 : decode cX9_feed 38 = .ok (.dup, 1) := by decide +kernel
theorem dX9_feed_39 : decode cX9_feed 39 = .ok (.ldc 82, 2) := by decide +kernel
theorem dX9_feed_41 : decode cX9_feed 41 = .ok (.invokespecial 84, 3) := by decide +kernel
theorem dX9_feed_44 : decode cX9_feed 44 = .ok (.athrow, 1) := by decide +kernel
theorem dX9_feed_45 : decode cX9_feed 45 = .ok (.iload_n 3, 1) := by decide +kernel
theorem dX9_feed_46 : decode cX9_feed 46 = .ok (.iconst 1, 1) := by decide +kernel
theorem dX9_feed_47 : decode cX9_feed 47 = .ok (.isub, 1) := by decide +kernel
theorem dX9_feed_48 : decode cX9_feed 48 = .ok (.istore 4, 2) := by decide +kernel
theorem dX9_feed_50 : decode cX9_feed 50 = .ok (.iload 4, 2) := by decide +kernel
theorem dX9_feed_52 : decode cX9_feed 52 = .ok (.ifCond .lt 28, 3) := by decide +kernel
theorem dX9_feed_55 : decode cX9_feed 55 = .ok (.aload_n 0, 1) := by decide +kernel
theorem dX9_feed_56 : decode cX9_feed 56 = .ok (.getfield 10, 3) := by decide +kernel
theorem dX9_feed_59 : decode cX9_feed 59 = .ok (.lload_n 1, 1) := by decide +kernel
theorem dX9_feed_60 : decode cX9_feed 60 = .ok (.bipush 8, 2) := by decide +kernel
theorem dX9_feed_62 : decode cX9_feed 62 = .ok (.iload 4, 2) := by decide +kernel
theorem dX9_feed_64 : decode cX9_feed 64 = .ok (.imul, 1) := by decide +kernel
theorem dX9_feed_65 : decode cX9_feed 65 = .ok (.lshr, 1) := by decide +kernel
theorem dX9_feed_66 : decode cX9_feed 66 = .ok (.ldc2_w 85, 3) := by decide +kernel
theorem dX9_feed_69 : decode cX9_feed 69 = .ok (.land, 1) := by decide +kernel
theorem dX9_feed_70 : decode cX9_feed 70 = .ok (.l2i, 1) := by decide +kernel
theorem dX9_feed_71 : decode cX9_feed 71 = .ok (.invokevirtual 87, 3) := by decide +kernel
theorem dX9_feed_74 : decode cX9_feed 74 = .ok (.iinc 4 (-1), 3) := by decide +kernel
theorem dX9_feed_77 : decode cX9_feed 77 = .ok (.goto (-27), 3) := by decide +kernel
theorem dX9_feed_80 : decode cX9_feed 80 = .ok (.aload_n 0, 1) := by decide +kernel
theorem dX9_feed_81 : decode cX9_feed 81 = .ok (.getfield 51, 3) := by decide +kernel
theorem dX9_feed_84 : decode cX9_feed 84 = .ok (.invokevirtual 91, 3) := by decide +kernel
theorem dX9_feed_87 : decode cX9_feed 87 = .ok (.aload_n 0, 1) := by decide +kernel
theorem dX9_feed_88 : decode cX9_feed 88 = .ok (.getfield 10, 3) := by decide +kernel
theorem dX9_feed_91 : decode cX9_feed 91 = .ok (.getfield 76, 3) := by decide +kernel
theorem dX9_feed_94 : decode cX9_feed 94 = .ok (.ireturn, 1) := by decide +kernel
set_option maxRecDepth 20000 in
theorem ggX9_fill_X9_isByte : GoodIn wsX9_fill wsX9_isByte := goodIn_r _ [11] (by decide +kernel) (by decide +kernel)
set_option maxRecDepth 20000 in
theorem gX9_fill_X9_isByte : GoodIn wsX9_fill (va_wsS RX9 94 yX9_isByte wsX9_isByte) := goodIn_app (goodIn_of _ (by decide +kernel)) ggX9_fill_X9_isByte
set_option maxRecDepth 20000 in
theorem ggX9_fill_X8_push : GoodIn wsX9_fill wsX8_push := goodIn_r _ [16, 17, 18, 34, 35] (by decide +kernel) (by decide +kernel)
set_option maxRecDepth 20000 in
theorem gX9_fill_X8_push : GoodIn wsX9_fill (wsV RX9 87 RX8 yX8_push wsX8_push) := goodIn_app (goodIn_of _ (by decide +kernel)) ggX9_fill_X8_push
set_option maxRecDepth 20000 in
theorem ggX9_fill_X4_forget : GoodIn wsX9_fill wsX4_forget := goodIn_r _ [23, 24, 25, 36, 37, 38, 39, 40, 41] (by decide +kernel) (by decide +kernel)
set_option maxRecDepth 20000 in
theorem gX9_fill_X4_forget : GoodIn wsX9_fill (wsV RX9 91 RX4 yX4_forget wsX4_forget) := goodIn_app (goodIn_of _ (by decide +kernel)) ggX9_fill_X4_forget
theorem dX9_fill_0 : decode cX9_fill 0 = .ok (.iload_n 1, 1) := by decide +kernel
theorem dX9_fill_1 : decode cX9_fill 1 = .ok (.invokestatic 94, 3) := by decide +kernel
theorem dX9_fill_4 : decode cX9_fill 4 = .ok (.ifCond .eq 14, 3) := by decide +kernel
theorem dX9_fill_7 : decode cX9_fill 7 = .ok (.iload_n 2, 1) := by decide +kernel
theorem dX9_fill_8 : decode cX9_fill 8 = .ok (.iconst 1, 1) := by decide +kernel
theorem dX9_fill_9 : decode cX9_fill 9 = .ok (.if_icmp .lt 9, 3) := by decide +kernel
theorem dX9_fill_12 : decode cX9_fill 12 = .ok (.iload_n 2, 1) := by decide +kernel
theorem dX9_fill_13 : decode cX9_fill 13 = .ok (.bipush 64, 2) := by decide +kernel
theorem dX9_fill_15 : decode cX9_fill 15 = .ok (.if_icmp .le 13, 3) := by decide +kernel
theorem dX9_fill_18 : decode cX9_fill 18 = .ok (.new 69, 3) := by decide +kernel
theorem dX9_fill_21 : decode cX9_fill 21 = .ok (.dup, 1) := by decide +kernel
theorem dX9_fill_22 : decode cX9_fill 22 = .ok (.ldc 98, 2) := by decide +kernel
theorem dX9_fill_24 : decode cX9_fill 24 = .ok (.invokespecial 73, 3) := by decide +kernel
theorem dX9_fill_27 : decode cX9_fill 27 = .ok (.athrow, 1) := by decide +kernel
theorem dX9_fill_28 : decode cX9_fill 28 = .ok (.aload_n 0, 1) := by decide +kernel
theorem dX9_fill_29 : decode cX9_fill 29 = .ok (.getfield 10, 3) := by decide +kernel
theorem dX9_fill_32 : decode cX9_fill 32 = .ok (.getfield 76, 3) := by decide +kernel
theorem dX9_fill_35 : decode cX9_fill 35 = .ok (.iload_n 2, 1) := by decide +kernel
theorem dX9_fill_36 : decode cX9_fill 36 = .ok (.iadd, 1) := by decide +kernel
theorem dX9_fill_37 : decode cX9_fill 37 = .ok (.bipush 64, 2) := by decide +kernel
theorem dX9_fill_39 : decode cX9_fill 39 = .ok (.if_icmp .le 13, 3) := by decide +kernel
theorem dX9_fill_42 : decode cX9_fill 42 = .ok (.new 80, 3) := by decide +kernel
theorem dX9_fill_45 : decode cX9_fill 45 = .ok (.dup, 1) := by decide +kernel
theorem dX9_fill_46 : decode cX9_fill 46 = .ok (.ldc 82, 2) := by decide +kernel
theorem dX9_fill_48 : decode cX9_fill 48 = .ok (.invokespecial 84, 3) := by decide +kernel
theorem dX9_fill_51 : decode cX9_fill 51 = .ok (.athrow, 1) := by decide +kernel
theorem dX9_fill_52 : decode cX9_fill 52 = .ok (.iconst 0, 1) := by decide +kernel
theorem dX9_fill_53 : decode cX9_fill 53 = .ok (.istore_n 3, 1) := by decide +kernel
theorem dX9_fill_54 : decode cX9_fill 54 = .ok (.iload_n 3, 1) := by decide +kernel
theorem dX9_fill_55 : decode cX9_fill 55 = .ok (.iload_n 2, 1) := by decide +kernel
theorem dX9_fill_56 : decode cX9_fill 56 = .ok (.if_icmp .ge 17, 3) := by decide +kernel
theorem dX9_fill_59 : decode cX9_fill 59 = .ok (.aload_n 0, 1) := by decide +kernel
theorem dX9_fill_60 : decode cX9_fill 60 = .ok (.getfield 10, 3) := by decide +kernel
theorem dX9_fill_63 : decode cX9_fill 63 = .ok (.iload_n 1, 1) := by decide +kernel
theorem dX9_fill_64 : decode cX9_fill 64 = .ok (.invokevirtual 87, 3) := by decide +kernel
theorem dX9_fill_67 : decode cX9_fill 67 = .ok (.iinc 3 1, 3) := by decide +kernel
theorem dX9_fill_70 : decode cX9_fill 70 = .ok (.goto (-16), 3) := by decide +kernel
theorem dX9_fill_73 : decode cX9_fill 73 = .ok (.aload_n 0, 1) := by decide +kernel
theorem dX9_fill_74 : decode cX9_fill 74 = .ok (.getfield 51, 3) := by decide +kernel
theorem dX9_fill_77 : decode cX9_fill 77 = .ok (.invokevirtual 91, 3) := by decide +kernel
theorem dX9_fill_80 : decode cX9_fill 80 = .ok (.aload_n 0, 1) := by decide +kernel
theorem dX9_fill_81 : decode cX9_fill 81 = .ok (.getfield 10, 3) := by decide +kernel
theorem dX9_fill_84 : decode cX9_fill 84 = .ok (.getfield 76, 3) := by decide +kernel
theorem dX9_fill_87 : decode cX9_fill 87 = .ok (.ireturn, 1) := by decide +kernel
set_option maxRecDepth 20000 in
theorem ggX9_cut_X4_forget : GoodIn wsX9_cut wsX4_forget := goodIn_r _ [10, 11, 12, 23, 24, 25, 26, 27, 28] (by decide +kernel) (by decide +kernel)
set_option maxRecDepth 20000 in
theorem gX9_cut_X4_forget : GoodIn wsX9_cut (wsV RX9 91 RX4 yX4_forget wsX4_forget) := goodIn_app (goodIn_of _ (by decide +kernel)) ggX9_cut_X4_forget
theorem dX9_cut_0 : decode cX9_cut 0 = .ok (.iload_n 1, 1) := by decide +kernel
theorem dX9_cut_1 : decode cX9_cut 1 = .ok (.ifCond .lt 14, 3) := by decide +kernel
theorem dX9_cut_4 : decode cX9_cut 4 = .ok (.iload_n 1, 1) := by decide +kernel
theorem dX9_cut_5 : decode cX9_cut 5 = .ok (.aload_n 0, 1) := by decide +kernel
theorem dX9_cut_6 : decode cX9_cut 6 = .ok (.getfield 10, 3) := by decide +kernel
theorem dX9_cut_9 : decode cX9_cut 9 = .ok (.getfield 76, 3) := by decide +kernel
theorem dX9_cut_12 : decode cX9_cut 12 = .ok (.if_icmp .le 13, 3) := by decide +kernel
theorem dX9_cut_15 : decode cX9_cut 15 = .ok (.new 69, 3) := by decide +kernel
theorem dX9_cut_18 : decode cX9_cut 18 = .ok (.dup, 1) := by decide +kernel
theorem dX9_cut_19 : decode cX9_cut 19 = .ok (.ldc 100, 2) := by decide +kernel
theorem dX9_cut_21 : decode cX9_cut 21 = .ok (.invokespecial 73, 3) := by decide +kernel
theorem dX9_cut_24 : decode cX9_cut 24 = .ok (.athrow, 1) := by decide +kernel
theorem dX9_cut_25 : decode cX9_cut 25 = .ok (.aload_n 0, 1) := by decide +kernel
theorem dX9_cut_26 : decode cX9_cut 26 = .ok (.getfield 10, 3) := by decide +kernel
theorem dX9_cut_29 : decode cX9_cut 29 = .ok (.dup, 1) := by decide +kernel
theorem dX9_cut_30 : decode cX9_cut 30 = .ok (.getfield 76, 3) := by decide +kernel
theorem dX9_cut_33 : decode cX9_cut 33 = .ok (.iload_n 1, 1) := by decide +kernel
theorem dX9_cut_34 : decode cX9_cut 34 = .ok (.isub, 1) := by decide +kernel
theorem dX9_cut_35 : decode cX9_cut 35 = .ok (.putfield 76, 3) := by decide +kernel
theorem dX9_cut_38 : decode cX9_cut 38 = .ok (.aload_n 0, 1) := by decide +kernel
theorem dX9_cut_39 : decode cX9_cut 39 = .ok (.getfield 51, 3) := by decide +kernel
theorem dX9_cut_42 : decode cX9_cut 42 = .ok (.invokevirtual 91, 3) := by decide +kernel
theorem dX9_cut_45 : decode cX9_cut 45 = .ok (.aload_n 0, 1) := by decide +kernel
theorem dX9_cut_46 : decode cX9_cut 46 = .ok (.getfield 10, 3) := by decide +kernel
theorem dX9_cut_49 : decode cX9_cut 49 = .ok (.getfield 76, 3) := by decide +kernel
theorem dX9_cut_52 : decode cX9_cut 52 = .ok (.ireturn, 1) := by decide +kernel
set_option maxRecDepth 20000 in
theorem ggX9_set_X8_has : GoodIn wsX9_set wsX8_has := goodIn_r _ [12, 13, 33, 34] (by decide +kernel) (by decide +kernel)
set_option maxRecDepth 20000 in
theorem gX9_set_X8_has : GoodIn wsX9_set (wsV RX9 102 RX8 yX8_has wsX8_has) := goodIn_app (goodIn_of _ (by decide +kernel)) ggX9_set_X8_has
set_option maxRecDepth 20000 in
theorem ggX9_set_X9_isByte : GoodIn wsX9_set wsX9_isByte := goodIn_r _ [17] (by decide +kernel) (by decide +kernel)
set_option maxRecDepth 20000 in
theorem gX9_set_X9_isByte : GoodIn wsX9_set (va_wsS RX9 94 yX9_isByte wsX9_isByte) := goodIn_app (goodIn_of _ (by decide +kernel)) ggX9_set_X9_isByte
set_option maxRecDepth 20000 in
theorem ggX9_set_X4_forget : GoodIn wsX9_set wsX4_forget := goodIn_r _ [22, 23, 24, 35, 36, 37, 38, 39, 40] (by decide +kernel) (by decide +kernel)
set_option maxRecDepth 20000 in
theorem gX9_set_X4_forget : GoodIn wsX9_set (wsV RX9 91 RX4 yX4_forget wsX4_forget) := goodIn_app (goodIn_of _ (by decide +kernel)) ggX9_set_X4_forget
theorem dX9_set_0 : decode cX9_set 0 = .ok (.aload_n 0, 1) := by decide +kernel
theorem dX9_set_1 : decode cX9_set 1 = .ok (.getfield 10, 3) := by decide +kernel
theorem dX9_set_4 : decode cX9_set 4 = .ok (.iload_n 1, 1) := by decide +kernel
theorem dX9_set_5 : decode cX9_set 5 = .ok (.invokevirtual 102, 3) := by decide +kernel
theorem dX9_set_8 : decode cX9_set 8 = .ok (.ifCond .ne 13, 3) := by decide +kernel
theorem dX9_set_11 : decode cX9_set 11 = .ok (.new 105, 3) := by decide +kernel
theorem dX9_set_14 : decode cX9_set 14 = .ok (.dup, 1) := by decide +kernel
theorem dX9_set_15 : decode cX9_set 15 = .ok (.ldc 107, 2) := by decide +kernel
theorem dX9_set_17 : decode cX9_set 17 = .ok (.invokespecial 109, 3) := by decide +kernel
theorem dX9_set_20 : decode cX9_set 20 = .ok (.athrow, 1) := by decide +kernel
theorem dX9_set_21 : decode cX9_set 21 = .ok (.iload_n 2, 1) := by decide +kernel
theorem dX9_set_22 : decode cX9_set 22 = .ok (.invokestatic 94, 3) := by decide +kernel
theorem dX9_set_25 : decode cX9_set 25 = .ok (.ifCond .ne 13, 3) := by decide +kernel
theorem dX9_set_28 : decode cX9_set 28 = .ok (.new 69, 3) := by decide +kernel
theorem dX9_set_31 : decode cX9_set 31 = .ok (.dup, 1) := by decide +kernel
theorem dX9_set_32 : decode cX9_set 32 = .ok (.ldc 110, 2) := by decide +kernel
theorem dX9_set_34 : decode cX9_set 34 = .ok (.invokespecial 73, 3) := by decide +kernel
theorem dX9_set_37 : decode cX9_set 37 = .ok (.athrow, 1) := by decide +kernel
theorem dX9_set_38 : decode cX9_set 38 = .ok (.aload_n 0, 1) := by decide +kernel
theorem dX9_set_39 : decode cX9_set 39 = .ok (.getfield 10, 3) := by decide +kernel
theorem dX9_set_42 : decode cX9_set 42 = .ok (.getfield 112, 3) := by decide +kernel
theorem dX9_set_45 : decode cX9_set 45 = .ok (.iload_n 1, 1) := by decide +kernel
theorem dX9_set_46 : decode cX9_set 46 = .ok (.iaload, 1) := by decide +kernel
theorem dX9_set_47 : decode cX9_set 47 = .ok (.istore_n 3, 1) := by decide +kernel
theorem dX9_set_48 : decode cX9_set 48 = .ok (.aload_n 0, 1) := by decide +kernel
theorem dX9_set_49 : decode cX9_set 49 = .ok (.getfield 10, 3) := by decide +kernel
theorem dX9_set_52 : decode cX9_set 52 = .ok (.getfield 112, 3) := by decide +kernel
theorem dX9_set_55 : decode cX9_set 55 = .ok (.iload_n 1, 1) := by decide +kernel
theorem dX9_set_56 : decode cX9_set 56 = .ok (.iload_n 2, 1) := by decide +kernel
theorem dX9_set_57 : decode cX9_set 57 = .ok (.iastore, 1) := by decide +kernel
theorem dX9_set_58 : decode cX9_set 58 = .ok (.aload_n 0, 1) := by decide +kernel
theorem dX9_set_59 : decode cX9_set 59 = .ok (.getfield 51, 3) := by decide +kernel
theorem dX9_set_62 : decode cX9_set 62 = .ok (.invokevirtual 91, 3) := by decide +kernel
theorem dX9_set_65 : decode cX9_set 65 = .ok (.iload_n 3, 1) := by decide +kernel
theorem dX9_set_66 : decode cX9_set 66 = .ok (.ireturn, 1) := by decide +kernel
theorem dX9_size_0 : decode cX9_size 0 = .ok (.aload_n 0, 1) := by decide +kernel
theorem dX9_size_1 : decode cX9_size 1 = .ok (.getfield 10, 3) := by decide +kernel
theorem dX9_size_4 : decode cX9_size 4 = .ok (.getfield 76, 3) := by decide +kernel
theorem dX9_size_7 : decode cX9_size 7 = .ok (.ireturn, 1) := by decide +kernel
set_option maxRecDepth 20000 in
theorem ggX9_byteAt_X8_has : GoodIn wsX9_byteAt wsX8_has := goodIn_r _ [9, 10, 19, 20] (by decide +kernel) (by decide +kernel)
set_option maxRecDepth 20000 in
theorem gX9_byteAt_X8_has : GoodIn wsX9_byteAt (wsV RX9 102 RX8 yX8_has wsX8_has) := goodIn_app (goodIn_of _ (by decide +kernel)) ggX9_byteAt_X8_has
theorem dX9_byteAt_0 : decode cX9_byteAt 0 = .ok (.aload_n 0, 1) := by decide +kernel
theorem dX9_byteAt_1 : decode cX9_byteAt 1 = .ok (.getfield 10, 3) := by decide +kernel
theorem dX9_byteAt_4 : decode cX9_byteAt 4 = .ok (.iload_n 1, 1) := by decide +kernel
theorem dX9_byteAt_5 : decode cX9_byteAt 5 = .ok (.invokevirtual 102, 3) := by decide +kernel
theorem dX9_byteAt_8 : decode cX9_byteAt 8 = .ok (.ifCond .ne 13, 3) := by decide +kernel
theorem dX9_byteAt_11 : decode cX9_byteAt 11 = .ok (.new 105, 3) := by decide +kernel
theorem dX9_byteAt_14 : decode cX9_byteAt 14 = .ok (.dup, 1) := by decide +kernel
theorem dX9_byteAt_15 : decode cX9_byteAt 15 = .ok (.ldc 107, 2) := by decide +kernel
theorem dX9_byteAt_17 : decode cX9_byteAt 17 = .ok (.invokespecial 109, 3) := by decide +kernel
theorem dX9_byteAt_20 : decode cX9_byteAt 20 = .ok (.athrow, 1) := by decide +kernel
theorem dX9_byteAt_21 : decode cX9_byteAt 21 = .ok (.aload_n 0, 1) := by decide +kernel
theorem dX9_byteAt_22 : decode cX9_byteAt 22 = .ok (.getfield 10, 3) := by decide +kernel
theorem dX9_byteAt_25 : decode cX9_byteAt 25 = .ok (.getfield 112, 3) := by decide +kernel
theorem dX9_byteAt_28 : decode cX9_byteAt 28 = .ok (.iload_n 1, 1) := by decide +kernel
theorem dX9_byteAt_29 : decode cX9_byteAt 29 = .ok (.iaload, 1) := by decide +kernel
theorem dX9_byteAt_30 : decode cX9_byteAt 30 = .ok (.ireturn, 1) := by decide +kernel
set_option maxRecDepth 20000 in
theorem ggX9_setWindow_X4_forget : GoodIn wsX9_setWindow wsX4_forget := goodIn_r _ [10, 11, 12, 25, 26, 27, 28, 29, 30] (by decide +kernel) (by decide +kernel)
set_option maxRecDepth 20000 in
theorem gX9_setWindow_X4_forget : GoodIn wsX9_setWindow (wsV RX9 91 RX4 yX4_forget wsX4_forget) := goodIn_app (goodIn_of _ (by decide +kernel)) ggX9_setWindow_X4_forget
theorem dX9_setWindow_0 : decode cX9_setWindow 0 = .ok (.iload_n 1, 1) := by decide +kernel
theorem dX9_setWindow_1 : decode cX9_setWindow 1 = .ok (.iconst 1, 1) := by decide +kernel
theorem dX9_setWindow_2 : decode cX9_setWindow 2 = .ok (.if_icmp .lt 9, 3) := by decide +kernel
theorem dX9_setWindow_5 : decode cX9_setWindow 5 = .ok (.iload_n 1, 1) := by decide +kernel
theorem dX9_setWindow_6 : decode cX9_setWindow 6 = .ok (.bipush 64, 2) := by decide +kernel
theorem dX9_setWindow_8 : decode cX9_setWindow 8 = .ok (.if_icmp .le 13, 3) := by decide +kernel
theorem dX9_setWindow_11 : decode cX9_setWindow 11 = .ok (.new 69, 3) := by decide +kernel
theorem dX9_setWindow_14 : decode cX9_setWindow 14 = .ok (.dup, 1) := by decide +kernel
theorem dX9_setWindow_15 : decode cX9_setWindow 15 = .ok (.ldc 116, 2) := by decide +kernel
theorem dX9_setWindow_17 : decode cX9_setWindow 17 = .ok (.invokespecial 73, 3) := by decide +kernel
theorem dX9_setWindow_20 : decode cX9_setWindow 20 = .ok (.athrow, 1) := by decide +kernel
theorem dX9_setWindow_21 : decode cX9_setWindow 21 = .ok (.aload_n 0, 1) := by decide +kernel
theorem dX9_setWindow_22 : decode cX9_setWindow 22 = .ok (.getfield 19, 3) := by decide +kernel
theorem dX9_setWindow_25 : decode cX9_setWindow 25 = .ok (.getfield 118, 3) := by decide +kernel
theorem dX9_setWindow_28 : decode cX9_setWindow 28 = .ok (.istore_n 2, 1) := by decide +kernel
theorem dX9_setWindow_29 : decode cX9_setWindow 29 = .ok (.aload_n 0, 1) := by decide +kernel
theorem dX9_setWindow_30 : decode cX9_setWindow 30 = .ok (.getfield 19, 3) := by decide +kernel
theorem dX9_setWindow_33 : decode cX9_setWindow 33 = .ok (.iload_n 1, 1) := by decide +kernel
theorem dX9_setWindow_34 : decode cX9_setWindow 34 = .ok (.putfield 118, 3) := by decide +kernel
theorem dX9_setWindow_37 : decode cX9_setWindow 37 = .ok (.aload_n 0, 1) := by decide +kernel
theorem dX9_setWindow_38 : decode cX9_setWindow 38 = .ok (.getfield 51, 3) := by decide +kernel
theorem dX9_setWindow_41 : decode cX9_setWindow 41 = .ok (.invokevirtual 91, 3) := by decide +kernel
theorem dX9_setWindow_44 : decode cX9_setWindow 44 = .ok (.iload_n 2, 1) := by decide +kernel
theorem dX9_setWindow_45 : decode cX9_setWindow 45 = .ok (.ireturn, 1) := by decide +kernel
set_option maxRecDepth 20000 in
theorem ggX9_setLengths_X4_forget : GoodIn wsX9_setLengths wsX4_forget := goodIn_r _ [11, 12, 13, 26, 27, 28, 29, 30, 31] (by decide +kernel) (by decide +kernel)
set_option maxRecDepth 20000 in
theorem gX9_setLengths_X4_forget : GoodIn wsX9_setLengths (wsV RX9 91 RX4 yX4_forget wsX4_forget) := goodIn_app (goodIn_of _ (by decide +kernel)) ggX9_setLengths_X4_forget
theorem dX9_setLengths_0 : decode cX9_setLengths 0 = .ok (.iload_n 1, 1) := by decide +kernel
theorem dX9_setLengths_1 : decode cX9_setLengths 1 = .ok (.iconst 2, 1) := by decide +kernel
theorem dX9_setLengths_2 : decode cX9_setLengths 2 = .ok (.if_icmp .lt 9, 3) := by decide +kernel
theorem dX9_setLengths_5 : decode cX9_setLengths 5 = .ok (.iload_n 1, 1) := by decide +kernel
theorem dX9_setLengths_6 : decode cX9_setLengths 6 = .ok (.bipush 6, 2) := by decide +kernel
theorem dX9_setLengths_8 : decode cX9_setLengths 8 = .ok (.if_icmp .le 13, 3) := by decide +kernel
theorem dX9_setLengths_11 : decode cX9_setLengths 11 = .ok (.new 69, 3) := by decide +kernel
theorem dX9_setLengths_14 : decode cX9_setLengths 14 = .ok (.dup, 1) := by decide +kernel
theorem dX9_setLengths_15 : decode cX9_setLengths 15 = .ok (.ldc 121, 2) := by decide +kernel
theorem dX9_setLengths_17 : decode cX9_setLengths 17 = .ok (.invokespecial 73, 3) := by decide +kernel
theorem dX9_setLengths_20 : decode cX9_setLengths 20 = .ok (.athrow, 1) := by decide +kernel
theorem dX9_setLengths_21 : decode cX9_setLengths 21 = .ok (.iload_n 2, 1) := by decide +kernel
theorem dX9_setLengths_22 : decode cX9_setLengths 22 = .ok (.iconst 2, 1) := by decide +kernel
theorem dX9_setLengths_23 : decode cX9_setLengths 23 = .ok (.if_icmp .lt 14, 3) := by decide +kernel
theorem dX9_setLengths_26 : decode cX9_setLengths 26 = .ok (.iload_n 2, 1) := by decide +kernel
theorem dX9_setLengths_27 : decode cX9_setLengths 27 = .ok (.bipush 64, 2) := by decide +kernel
theorem dX9_setLengths_29 : decode cX9_setLengths 29 = .ok (.if_icmp .gt 8, 3) := by decide +kernel
theorem dX9_setLengths_32 : decode cX9_setLengths 32 = .ok (.iload_n 2, 1) := by decide +kernel
theorem dX9_setLengths_33 : decode cX9_setLengths 33 = .ok (.iload_n 1, 1) := by decide +kernel
theorem dX9_setLengths_34 : decode cX9_setLengths 34 = .ok (.if_icmp .ge 13, 3) := by decide +kernel
theorem dX9_setLengths_37 : decode cX9_setLengths 37 = .ok (.new 69, 3) := by decide +kernel
theorem dX9_setLengths_40 : decode cX9_setLengths 40 = .ok (.dup, 1) := by decide +kernel
theorem dX9_setLengths_41 : decode cX9_setLengths 41 = .ok (.ldc 123, 2) := by decide +kernel
theorem dX9_setLengths_43 : decode cX9_setLengths 43 = .ok (.invokespecial 73, 3) := by decide +kernel
theorem dX9_setLengths_46 : decode cX9_setLengths 46 = .ok (.athrow, 1) := by decide +kernel
theorem dX9_setLengths_47 : decode cX9_setLengths 47 = .ok (.iload_n 1, 1) := by decide +kernel
theorem dX9_setLengths_48 : decode cX9_setLengths 48 = .ok (.aload_n 0, 1) := by decide +kernel
theorem dX9_setLengths_49 : decode cX9_setLengths 49 = .ok (.getfield 19, 3) := by decide +kernel
theorem dX9_setLengths_52 : decode cX9_setLengths 52 = .ok (.getfield 125, 3) := by decide +kernel
theorem dX9_setLengths_55 : decode cX9_setLengths 55 = .ok (.if_icmp .ne 14, 3) := by decide +kernel
theorem dX9_setLengths_58 : decode cX9_setLengths 58 = .ok (.iload_n 2, 1) := by decide +kernel
theorem dX9_setLengths_59 : decode cX9_setLengths 59 = .ok (.aload_n 0, 1) := by decide +kernel
theorem dX9_setLengths_60 : decode cX9_setLengths 60 = .ok (.getfield 19, 3) := by decide +kernel
theorem dX9_setLengths_63 : decode cX9_setLengths 63 = .ok (.getfield 128, 3) := by decide +kernel
theorem dX9_setLengths_66 : decode cX9_setLengths 66 = .ok (.if_icmp .eq 7, 3) := by decide +kernel
theorem dX9_setLengths_69 : decode cX9_setLengths 69 = .ok (.iconst 1, 1) := by decide +kernel
theorem dX9_setLengths_70 : decode cX9_setLengths 70 = .ok (.goto 4, 3) := by decide +kernel
theorem dX9_setLengths_73 : decode cX9_setLengths 73 = .ok (.iconst 0, 1) := by decide +kernel
theorem dX9_setLengths_74 : decode cX9_setLengths 74 = .ok (.istore_n 3, 1) := by decide +kernel
theorem dX9_setLengths_75 : decode cX9_setLengths 75 = .ok (.aload_n 0, 1) := by decide +kernel
theorem dX9_setLengths_76 : decode cX9_setLengths 76 = .ok (.getfield 19, 3) := by decide +kernel
theorem dX9_setLengths_79 : decode cX9_setLengths 79 = .ok (.iload_n 1, 1) := by decide +kernel
theorem dX9_setLengths_80 : decode cX9_setLengths 80 = .ok (.putfield 125, 3) := by decide +kernel
theorem dX9_setLengths_83 : decode cX9_setLengths 83 = .ok (.aload_n 0, 1) := by decide +kernel
theorem dX9_setLengths_84 : decode cX9_setLengths 84 = .ok (.getfield 19, 3) := by decide +kernel
theorem dX9_setLengths_87 : decode cX9_setLengths 87 = .ok (.iload_n 2, 1) := by decide +kernel
theorem dX9_setLengths_88 : decode cX9_setLengths 88 = .ok (.putfield 128, 3) := by decide +kernel
theorem dX9_setLengths_91 : decode cX9_setLengths 91 = .ok (.aload_n 0, 1) := by decide +kernel
theorem dX9_setLengths_92 : decode cX9_setLengths 92 = .ok (.getfield 51, 3) := by decide +kernel
theorem dX9_setLengths_95 : decode cX9_setLengths 95 = .ok (.invokevirtual 91, 3) := by decide +kernel
theorem dX9_setLengths_98 : decode cX9_setLengths 98 = .ok (.iload_n 3, 1) := by decide +kernel
theorem dX9_setLengths_99 : decode cX9_setLengths 99 = .ok (.ireturn, 1) := by decide +kernel
set_option maxRecDepth 20000 in
theorem ggX9_setPrice_X4_forget : GoodIn wsX9_setPrice wsX4_forget := goodIn_r _ [10, 11, 12, 25, 26, 27, 28, 29, 30] (by decide +kernel) (by decide +kernel)
set_option maxRecDepth 20000 in
theorem gX9_setPrice_X4_forget : GoodIn wsX9_setPrice (wsV RX9 91 RX4 yX4_forget wsX4_forget) := goodIn_app (goodIn_of _ (by decide +kernel)) ggX9_setPrice_X4_forget
theorem dX9_setPrice_0 : decode cX9_setPrice 0 = .ok (.iload_n 1, 1) := by decide +kernel
theorem dX9_setPrice_1 : decode cX9_setPrice 1 = .ok (.ifCond .lt 9, 3) := by decide +kernel
theorem dX9_setPrice_4 : decode cX9_setPrice 4 = .ok (.iload_n 1, 1) := by decide +kernel
theorem dX9_setPrice_5 : decode cX9_setPrice 5 = .ok (.bipush 30, 2) := by decide +kernel
theorem dX9_setPrice_7 : decode cX9_setPrice 7 = .ok (.if_icmp .le 13, 3) := by decide +kernel
theorem dX9_setPrice_10 : decode cX9_setPrice 10 = .ok (.new 69, 3) := by decide +kernel
theorem dX9_setPrice_13 : decode cX9_setPrice 13 = .ok (.dup, 1) := by decide +kernel
theorem dX9_setPrice_14 : decode cX9_setPrice 14 = .ok (.ldc 131, 2) := by decide +kernel
theorem dX9_setPrice_16 : decode cX9_setPrice 16 = .ok (.invokespecial 73, 3) := by decide +kernel
theorem dX9_setPrice_19 : decode cX9_setPrice 19 = .ok (.athrow, 1) := by decide +kernel
theorem dX9_setPrice_20 : decode cX9_setPrice 20 = .ok (.aload_n 0, 1) := by decide +kernel
theorem dX9_setPrice_21 : decode cX9_setPrice 21 = .ok (.getfield 19, 3) := by decide +kernel
theorem dX9_setPrice_24 : decode cX9_setPrice 24 = .ok (.getfield 133, 3) := by decide +kernel
theorem dX9_setPrice_27 : decode cX9_setPrice 27 = .ok (.istore_n 2, 1) := by decide +kernel
theorem dX9_setPrice_28 : decode cX9_setPrice 28 = .ok (.aload_n 0, 1) := by decide +kernel
theorem dX9_setPrice_29 : decode cX9_setPrice 29 = .ok (.getfield 19, 3) := by decide +kernel
theorem dX9_setPrice_32 : decode cX9_setPrice 32 = .ok (.iload_n 1, 1) := by decide +kernel
theorem dX9_setPrice_33 : decode cX9_setPrice 33 = .ok (.putfield 133, 3) := by decide +kernel
theorem dX9_setPrice_36 : decode cX9_setPrice 36 = .ok (.aload_n 0, 1) := by decide +kernel
theorem dX9_setPrice_37 : decode cX9_setPrice 37 = .ok (.getfield 51, 3) := by decide +kernel
theorem dX9_setPrice_40 : decode cX9_setPrice 40 = .ok (.invokevirtual 91, 3) := by decide +kernel
theorem dX9_setPrice_43 : decode cX9_setPrice 43 = .ok (.iload_n 2, 1) := by decide +kernel
theorem dX9_setPrice_44 : decode cX9_setPrice 44 = .ok (.ireturn, 1) := by decide +kernel
set_option maxRecDepth 20000 in
theorem ggX9_longest_X8_has : GoodIn wsX9_longest wsX8_has := goodIn_r _ [9, 10, 45, 46] (by decide +kernel) (by decide +kernel)
set_option maxRecDepth 20000 in
theorem gX9_longest_X8_has : GoodIn wsX9_longest (wsV RX9 102 RX8 yX8_has wsX8_has) := goodIn_app (goodIn_of _ (by decide +kernel)) ggX9_longest_X8_has
set_option maxRecDepth 20000 in
theorem ggX9_longest_X3_matchLength : GoodIn wsX9_longest wsX3_matchLength := goodIn_r _ [15, 16, 17, 18, 19, 20, 21, 22, 23, 24, 25, 26, 27, 28, 14, 29, 30, 31, 32, 33, 34, 8, 35, 10, 36, 47, 48, 49, 50, 51, 52, 45, 46] (by decide +kernel) (by decide +kernel)
set_option maxRecDepth 20000 in
theorem gX9_longest_X3_matchLength : GoodIn wsX9_longest (wsV RX9 136 RX3 yX3_matchLength wsX3_matchLength) := goodIn_app (goodIn_of _ (by decide +kernel)) ggX9_longest_X3_matchLength
theorem dX9_longest_0 : decode cX9_longest 0 = .ok (.aload_n 0, 1) := by decide +kernel
theorem dX9_longest_1 : decode cX9_longest 1 = .ok (.getfield 10, 3) := by decide +kernel
theorem dX9_longest_4 : decode cX9_longest 4 = .ok (.iload_n 1, 1) := by decide +kernel
theorem dX9_longest_5 : decode cX9_longest 5 = .ok (.invokevirtual 102, 3) := by decide +kernel
theorem dX9_longest_8 : decode cX9_longest 8 = .ok (.ifCond .ne 13, 3) := by decide +kernel
theorem dX9_longest_11 : decode cX9_longest 11 = .ok (.new 105, 3) := by decide +kernel
theorem dX9_longest_14 : decode cX9_longest 14 = .ok (.dup, 1) := by decide +kernel
theorem dX9_longest_15 : decode cX9_longest 15 = .ok (.ldc 107, 2) := by decide +kernel
theorem dX9_longest_17 : decode cX9_longest 17 = .ok (.invokespecial 109, 3) := by decide +kernel
theorem dX9_longest_20 : decode cX9_longest 20 = .ok (.athrow, 1) := by decide +kernel
theorem dX9_longest_21 : decode cX9_longest 21 = .ok (.aload_n 0, 1) := by decide +kernel
theorem dX9_longest_22 : decode cX9_longest 22 = .ok (.getfield 28, 3) := by decide +kernel
theorem dX9_longest_25 : decode cX9_longest 25 = .ok (.iload_n 1, 1) := by decide +kernel
theorem dX9_longest_26 : decode cX9_longest 26 = .ok (.invokevirtual 136, 3) := by decide +kernel
theorem dX9_longest_29 : decode cX9_longest 29 = .ok (.ireturn, 1) := by decide +kernel
set_option maxRecDepth 20000 in
theorem ggX9_nearest_X8_has : GoodIn wsX9_nearest wsX8_has := goodIn_r _ [9, 10, 49, 50] (by decide +kernel) (by decide +kernel)
set_option maxRecDepth 20000 in
theorem gX9_nearest_X8_has : GoodIn wsX9_nearest (wsV RX9 102 RX8 yX8_has wsX8_has) := goodIn_app (goodIn_of _ (by decide +kernel)) ggX9_nearest_X8_has
set_option maxRecDepth 20000 in
theorem ggX9_nearest_X3_matchLength : GoodIn wsX9_nearest wsX3_matchLength := goodIn_r _ [15, 16, 17, 18, 19, 20, 21, 22, 23, 24, 25, 26, 27, 28, 14, 29, 30, 31, 32, 33, 34, 8, 35, 10, 36, 51, 52, 53, 54, 55, 56, 49, 50] (by decide +kernel) (by decide +kernel)
set_option maxRecDepth 20000 in
theorem gX9_nearest_X3_matchLength : GoodIn wsX9_nearest (wsV RX9 136 RX3 yX3_matchLength wsX3_matchLength) := goodIn_app (goodIn_of _ (by decide +kernel)) ggX9_nearest_X3_matchLength
set_option maxRecDepth 20000 in
theorem ggX9_nearest_X3_matchDistance : GoodIn wsX9_nearest wsX3_matchDistance := goodIn_r _ [40, 16, 17, 18, 19, 20, 21, 26, 27, 28, 14, 29, 30, 31, 32, 33, 34, 8, 35, 10, 36, 51, 52, 53, 54, 55, 56, 49, 50] (by decide +kernel) (by decide +kernel)
set_option maxRecDepth 20000 in
theorem gX9_nearest_X3_matchDistance : GoodIn wsX9_nearest (wsV RX9 140 RX3 yX3_matchDistance wsX3_matchDistance) := goodIn_app (goodIn_of _ (by decide +kernel)) ggX9_nearest_X3_matchDistance
theorem dX9_nearest_0 : decode cX9_nearest 0 = .ok (.aload_n 0, 1) := by decide +kernel
theorem dX9_nearest_1 : decode cX9_nearest 1 = .ok (.getfield 10, 3) := by decide +kernel
theorem dX9_nearest_4 : decode cX9_nearest 4 = .ok (.iload_n 1, 1) := by decide +kernel
theorem dX9_nearest_5 : decode cX9_nearest 5 = .ok (.invokevirtual 102, 3) := by decide +kernel
theorem dX9_nearest_8 : decode cX9_nearest 8 = .ok (.ifCond .ne 13, 3) := by decide +kernel
theorem dX9_nearest_11 : decode cX9_nearest 11 = .ok (.new 105, 3) := by decide +kernel
theorem dX9_nearest_14 : decode cX9_nearest 14 = .ok (.dup, 1) := by decide +kernel
theorem dX9_nearest_15 : decode cX9_nearest 15 = .ok (.ldc 107, 2) := by decide +kernel
theorem dX9_nearest_17 : decode cX9_nearest 17 = .ok (.invokespecial 109, 3) := by decide +kernel
theorem dX9_nearest_20 : decode cX9_nearest 20 = .ok (.athrow, 1) := by decide +kernel
theorem dX9_nearest_21 : decode cX9_nearest 21 = .ok (.aload_n 0, 1) := by decide +kernel
theorem dX9_nearest_22 : decode cX9_nearest 22 = .ok (.getfield 28, 3) := by decide +kernel
theorem dX9_nearest_25 : decode cX9_nearest 25 = .ok (.iload_n 1, 1) := by decide +kernel
theorem dX9_nearest_26 : decode cX9_nearest 26 = .ok (.aload_n 0, 1) := by decide +kernel
theorem dX9_nearest_27 : decode cX9_nearest 27 = .ok (.getfield 28, 3) := by decide +kernel
theorem dX9_nearest_30 : decode cX9_nearest 30 = .ok (.iload_n 1, 1) := by decide +kernel
theorem dX9_nearest_31 : decode cX9_nearest 31 = .ok (.invokevirtual 136, 3) := by decide +kernel
theorem dX9_nearest_34 : decode cX9_nearest 34 = .ok (.invokevirtual 140, 3) := by decide +kernel
theorem dX9_nearest_37 : decode cX9_nearest 37 = .ok (.ireturn, 1) := by decide +kernel
set_option maxRecDepth 20000 in
theorem ggX9_common_X8_has : GoodIn wsX9_common wsX8_has := goodIn_r _ [10, 11, 25, 26] (by decide +kernel) (by decide +kernel)
set_option maxRecDepth 20000 in
theorem gX9_common_X8_has : GoodIn wsX9_common (wsV RX9 102 RX8 yX8_has wsX8_has) := goodIn_app (goodIn_of _ (by decide +kernel)) ggX9_common_X8_has
set_option maxRecDepth 20000 in
theorem ggX9_common_X8_sameFrom : GoodIn wsX9_common wsX8_sameFrom := goodIn_r _ [15, 11, 16, 25, 26] (by decide +kernel) (by decide +kernel)
set_option maxRecDepth 20000 in
theorem gX9_common_X8_sameFrom : GoodIn wsX9_common (wsV RX9 146 RX8 yX8_sameFrom wsX8_sameFrom) := goodIn_app (goodIn_of _ (by decide +kernel)) ggX9_common_X8_sameFrom
theorem dX9_common_0 : decode cX9_common 0 = .ok (.aload_n 0, 1) := by decide +kernel
theorem dX9_common_1 : decode cX9_common 1 = .ok (.getfield 10, 3) := by decide +kernel
theorem dX9_common_4 : decode cX9_common 4 = .ok (.iload_n 1, 1) := by decide +kernel
theorem dX9_common_5 : decode cX9_common 5 = .ok (.invokevirtual 102, 3) := by decide +kernel
theorem dX9_common_8 : decode cX9_common 8 = .ok (.ifCond .ne 13, 3) := by decide +kernel
theorem dX9_common_11 : decode cX9_common 11 = .ok (.new 105, 3) := by decide +kernel
theorem dX9_common_14 : decode cX9_common 14 = .ok (.dup, 1) := by decide +kernel
theorem dX9_common_15 : decode cX9_common 15 = .ok (.ldc 107, 2) := by decide +kernel
theorem dX9_common_17 : decode cX9_common 17 = .ok (.invokespecial 109, 3) := by decide +kernel
theorem dX9_common_20 : decode cX9_common 20 = .ok (.athrow, 1) := by decide +kernel
theorem dX9_common_21 : decode cX9_common 21 = .ok (.iload_n 2, 1) := by decide +kernel
theorem dX9_common_22 : decode cX9_common 22 = .ok (.iconst 1, 1) := by decide +kernel
theorem dX9_common_23 : decode cX9_common 23 = .ok (.if_icmp .lt 14, 3) := by decide +kernel
theorem dX9_common_26 : decode cX9_common 26 = .ok (.iload_n 2, 1) := by decide +kernel
theorem dX9_common_27 : decode cX9_common 27 = .ok (.bipush 64, 2) := by decide +kernel
theorem dX9_common_29 : decode cX9_common 29 = .ok (.if_icmp .gt 8, 3) := by decide +kernel
theorem dX9_common_32 : decode cX9_common 32 = .ok (.iload_n 2, 1) := by decide +kernel
theorem dX9_common_33 : decode cX9_common 33 = .ok (.iload_n 1, 1) := by decide +kernel
theorem dX9_common_34 : decode cX9_common 34 = .ok (.if_icmp .le 13, 3) := by decide +kernel
theorem dX9_common_37 : decode cX9_common 37 = .ok (.new 69, 3) := by decide +kernel
theorem dX9_common_40 : decode cX9_common 40 = .ok (.dup, 1) := by decide +kernel
theorem dX9_common_41 : decode cX9_common 41 = .ok (.ldc 144, 2) := by decide +kernel
theorem dX9_common_43 : decode cX9_common 43 = .ok (.invokespecial 73, 3) := by decide +kernel
theorem dX9_common_46 : decode cX9_common 46 = .ok (.athrow, 1) := by decide +kernel
theorem dX9_common_47 : decode cX9_common 47 = .ok (.aload_n 0, 1) := by decide +kernel
theorem dX9_common_48 : decode cX9_common 48 = .ok (.getfield 10, 3) := by decide +kernel
theorem dX9_common_51 : decode cX9_common 51 = .ok (.iload_n 1, 1) := by decide +kernel
theorem dX9_common_52 : decode cX9_common 52 = .ok (.iload_n 2, 1) := by decide +kernel
theorem dX9_common_53 : decode cX9_common 53 = .ok (.invokevirtual 146, 3) := by decide +kernel
theorem dX9_common_56 : decode cX9_common 56 = .ok (.ireturn, 1) := by decide +kernel
set_option maxRecDepth 20000 in
theorem ggX9_widthOf_X2_numberBits : GoodIn wsX9_widthOf wsX2_numberBits := goodIn_r _ [6] (by decide +kernel) (by decide +kernel)
set_option maxRecDepth 20000 in
theorem gX9_widthOf_X2_numberBits : GoodIn wsX9_widthOf (va_wsS RX9 151 yX2_numberBits wsX2_numberBits) := goodIn_app (goodIn_of _ (by decide +kernel)) ggX9_widthOf_X2_numberBits
theorem dX9_widthOf_0 : decode cX9_widthOf 0 = .ok (.iload_n 1, 1) := by decide +kernel
theorem dX9_widthOf_1 : decode cX9_widthOf 1 = .ok (.iconst 1, 1) := by decide +kernel
theorem dX9_widthOf_2 : decode cX9_widthOf 2 = .ok (.if_icmp .lt 10, 3) := by decide +kernel
theorem dX9_widthOf_5 : decode cX9_widthOf 5 = .ok (.iload_n 1, 1) := by decide +kernel
theorem dX9_widthOf_6 : decode cX9_widthOf 6 = .ok (.sipush 255, 3) := by decide +kernel
theorem dX9_widthOf_9 : decode cX9_widthOf 9 = .ok (.if_icmp .le 13, 3) := by decide +kernel
theorem dX9_widthOf_12 : decode cX9_widthOf 12 = .ok (.new 69, 3) := by decide +kernel
theorem dX9_widthOf_15 : decode cX9_widthOf 15 = .ok (.dup, 1) := by decide +kernel
theorem dX9_widthOf_16 : decode cX9_widthOf 16 = .ok (.ldc 149, 2) := by decide +kernel
theorem dX9_widthOf_18 : decode cX9_widthOf 18 = .ok (.invokespecial 73, 3) := by decide +kernel
theorem dX9_widthOf_21 : decode cX9_widthOf 21 = .ok (.athrow, 1) := by decide +kernel
theorem dX9_widthOf_22 : decode cX9_widthOf 22 = .ok (.iload_n 1, 1) := by decide +kernel
theorem dX9_widthOf_23 : decode cX9_widthOf 23 = .ok (.invokestatic 151, 3) := by decide +kernel
theorem dX9_widthOf_26 : decode cX9_widthOf 26 = .ok (.ireturn, 1) := by decide +kernel
set_option maxRecDepth 20000 in
theorem ggX9_best_X0_weighStates : GoodIn wsX9_best wsX0_weighStates := goodIn_r _ [7, 8, 9, 10, 11, 12, 13, 14, 15, 16, 17, 18, 19, 20, 6, 21, 22, 23, 24, 25, 26, 27, 28, 29, 30, 31, 32, 33, 34, 35, 36, 37, 38, 39, 40, 41, 42, 43, 44, 45, 46, 47, 48, 49, 50, 51, 52, 53, 54, 55, 56, 57, 58, 59, 60, 61, 62, 63, 64, 65, 66, 67, 120, 121, 122, 123, 124, 125, 126, 127, 128, 129, 130, 131, 132] (by decide +kernel) (by decide +kernel)
set_option maxRecDepth 20000 in
theorem gX9_best_X0_weighStates : GoodIn wsX9_best (wsV RX9 156 RX0 yX0_weighStates wsX0_weighStates) := goodIn_app (goodIn_of _ (by decide +kernel)) ggX9_best_X0_weighStates
set_option maxRecDepth 20000 in
theorem ggX9_best_X0_choose : GoodIn wsX9_best wsX0_choose := goodIn_r _ [71, 8, 9, 10, 27, 30, 29, 72, 73, 74, 75, 76, 77, 78, 53, 54, 55, 6, 56, 44, 45, 46, 47, 12, 48, 79, 80, 81, 82, 83, 84, 85, 86, 87, 88, 89, 90, 91, 92, 93, 57, 58, 59, 60, 31, 14, 15, 16, 17, 28, 61, 62, 63, 64, 65, 66, 39, 67, 41, 42, 43, 120, 121, 122, 123, 124, 125, 126, 127, 128, 133, 134, 135, 136, 137, 138, 129, 130, 131, 132] (by decide +kernel) (by decide +kernel)
set_option maxRecDepth 20000 in
theorem gX9_best_X0_choose : GoodIn wsX9_best (wsV RX9 159 RX0 yX0_choose wsX0_choose) := goodIn_app (goodIn_of _ (by decide +kernel)) ggX9_best_X0_choose
set_option maxRecDepth 20000 in
theorem ggX9_best_X9_costOfPlan : GoodIn wsX9_best wsX9_costOfPlan := goodIn_r _ [98, 2, 99, 100, 101, 102, 103, 104, 75, 105, 78, 106, 107, 108, 109, 83, 85, 84, 110, 38, 39, 40, 41, 42, 43, 111, 66, 67, 112, 113, 114, 115, 116, 117, 118, 119, 129, 130, 131, 132, 133, 134, 135, 136, 137, 138] (by decide +kernel) (by decide +kernel)
set_option maxRecDepth 20000 in
theorem gX9_best_X9_costOfPlan : GoodIn wsX9_best (wsV RX9 163 RX9 yX9_costOfPlan wsX9_costOfPlan) := goodIn_app (goodIn_of _ (by decide +kernel)) ggX9_best_X9_costOfPlan
theorem dX9_best_0 : decode cX9_best 0 = .ok (.aload_n 0, 1) := by decide +kernel
theorem dX9_best_1 : decode cX9_best 1 = .ok (.getfield 44, 3) := by decide +kernel
theorem dX9_best_4 : decode cX9_best 4 = .ok (.invokevirtual 156, 3) := by decide +kernel
theorem dX9_best_7 : decode cX9_best 7 = .ok (.aload_n 0, 1) := by decide +kernel
theorem dX9_best_8 : decode cX9_best 8 = .ok (.getfield 44, 3) := by decide +kernel
theorem dX9_best_11 : decode cX9_best 11 = .ok (.aload_n 0, 1) := by decide +kernel
theorem dX9_best_12 : decode cX9_best 12 = .ok (.getfield 51, 3) := by decide +kernel
theorem dX9_best_15 : decode cX9_best 15 = .ok (.invokevirtual 159, 3) := by decide +kernel
theorem dX9_best_18 : decode cX9_best 18 = .ok (.aload_n 0, 1) := by decide +kernel
theorem dX9_best_19 : decode cX9_best 19 = .ok (.invokevirtual 163, 3) := by decide +kernel
theorem dX9_best_22 : decode cX9_best 22 = .ok (.ireturn, 1) := by decide +kernel
set_option maxRecDepth 20000 in
theorem ggX9_greedy_X5_choose : GoodIn wsX9_greedy wsX5_choose := goodIn_r _ [7, 8, 9, 10, 11, 12, 13, 14, 15, 16, 17, 18, 19, 20, 21, 22, 23, 24, 25, 26, 27, 28, 29, 30, 31, 32, 33, 34, 35, 36, 37, 38, 39, 40, 41, 42, 43, 44, 45, 46, 47, 48, 49, 50, 51, 52, 53, 54, 55, 56, 57, 6, 58, 59, 60, 61, 62, 63, 98, 99, 100, 101, 102, 103, 104, 105, 106, 107, 108, 109, 110, 111, 112, 113] (by decide +kernel) (by decide +kernel)
set_option maxRecDepth 20000 in
theorem gX9_greedy_X5_choose : GoodIn wsX9_greedy (wsV RX9 167 RX5 yX5_choose wsX5_choose) := goodIn_app (goodIn_of _ (by decide +kernel)) ggX9_greedy_X5_choose
set_option maxRecDepth 20000 in
theorem ggX9_greedy_X9_costOfPlan : GoodIn wsX9_greedy wsX9_costOfPlan := goodIn_r _ [68, 2, 69, 70, 71, 72, 73, 74, 14, 75, 17, 76, 77, 78, 79, 51, 53, 52, 80, 81, 82, 83, 84, 85, 86, 87, 88, 89, 90, 91, 92, 93, 94, 95, 96, 97, 110, 111, 112, 113, 102, 103, 104, 105, 106, 107] (by decide +kernel) (by decide +kernel)
set_option maxRecDepth 20000 in
theorem gX9_greedy_X9_costOfPlan : GoodIn wsX9_greedy (wsV RX9 163 RX9 yX9_costOfPlan wsX9_costOfPlan) := goodIn_app (goodIn_of _ (by decide +kernel)) ggX9_greedy_X9_costOfPlan
theorem dX9_greedy_0 : decode cX9_greedy 0 = .ok (.aload_n 0, 1) := by decide +kernel
theorem dX9_greedy_1 : decode cX9_greedy 1 = .ok (.getfield 37, 3) := by decide +kernel
theorem dX9_greedy_4 : decode cX9_greedy 4 = .ok (.aload_n 0, 1) := by decide +kernel
theorem dX9_greedy_5 : decode cX9_greedy 5 = .ok (.getfield 51, 3) := by decide +kernel
theorem dX9_greedy_8 : decode cX9_greedy 8 = .ok (.iconst 0, 1) := by decide +kernel
theorem dX9_greedy_9 : decode cX9_greedy 9 = .ok (.invokevirtual 167, 3) := by decide +kernel
theorem dX9_greedy_12 : decode cX9_greedy 12 = .ok (.aload_n 0, 1) := by decide +kernel
theorem dX9_greedy_13 : decode cX9_greedy 13 = .ok (.invokevirtual 163, 3) := by decide +kernel
theorem dX9_greedy_16 : decode cX9_greedy 16 = .ok (.ireturn, 1) := by decide +kernel
set_option maxRecDepth 20000 in
theorem ggX9_lazy_X5_choose : GoodIn wsX9_lazy wsX5_choose := goodIn_r _ [7, 8, 9, 10, 11, 12, 13, 14, 15, 16, 17, 18, 19, 20, 21, 22, 23, 24, 25, 26, 27, 28, 29, 30, 31, 32, 33, 34, 35, 36, 37, 38, 39, 40, 41, 42, 43, 44, 45, 46, 47, 48, 49, 50, 51, 52, 53, 54, 55, 56, 57, 6, 58, 59, 60, 61, 62, 63, 98, 99, 100, 101, 102, 103, 104, 105, 106, 107, 108, 109, 110, 111, 112, 113] (by decide +kernel) (by decide +kernel)
set_option maxRecDepth 20000 in
theorem gX9_lazy_X5_choose : GoodIn wsX9_lazy (wsV RX9 167 RX5 yX5_choose wsX5_choose) := goodIn_app (goodIn_of _ (by decide +kernel)) ggX9_lazy_X5_choose
set_option maxRecDepth 20000 in
theorem ggX9_lazy_X9_costOfPlan : GoodIn wsX9_lazy wsX9_costOfPlan := goodIn_r _ [68, 2, 69, 70, 71, 72, 73, 74, 14, 75, 17, 76, 77, 78, 79, 51, 53, 52, 80, 81, 82, 83, 84, 85, 86, 87, 88, 89, 90, 91, 92, 93, 94, 95, 96, 97, 110, 111, 112, 113, 102, 103, 104, 105, 106, 107] (by decide +kernel) (by decide +kernel)
set_option maxRecDepth 20000 in
theorem gX9_lazy_X9_costOfPlan : GoodIn wsX9_lazy (wsV RX9 163 RX9 yX9_costOfPlan wsX9_costOfPlan) := goodIn_app (goodIn_of _ (by decide +kernel)) ggX9_lazy_X9_costOfPlan
theorem dX9_lazy_0 : decode cX9_lazy 0 = .ok (.aload_n 0, 1) := by decide +kernel
theorem dX9_lazy_1 : decode cX9_lazy 1 = .ok (.getfield 37, 3) := by decide +kernel
theorem dX9_lazy_4 : decode cX9_lazy 4 = .ok (.aload_n 0, 1) := by decide +kernel
theorem dX9_lazy_5 : decode cX9_lazy 5 = .ok (.getfield 51, 3) := by decide +kernel
theorem dX9_lazy_8 : decode cX9_lazy 8 = .ok (.iconst 1, 1) := by decide +kernel
theorem dX9_lazy_9 : decode cX9_lazy 9 = .ok (.invokevirtual 167, 3) := by decide +kernel
theorem dX9_lazy_12 : decode cX9_lazy 12 = .ok (.aload_n 0, 1) := by decide +kernel
theorem dX9_lazy_13 : decode cX9_lazy 13 = .ok (.invokevirtual 163, 3) := by decide +kernel
theorem dX9_lazy_16 : decode cX9_lazy 16 = .ok (.ireturn, 1) := by decide +kernel
theorem dX9_hasPlan_0 : decode cX9_hasPlan 0 = .ok (.aload_n 0, 1) := by decide +kernel
theorem dX9_hasPlan_1 : decode cX9_hasPlan 1 = .ok (.getfield 51, 3) := by decide +kernel
theorem dX9_hasPlan_4 : decode cX9_hasPlan 4 = .ok (.getfield 170, 3) := by decide +kernel
theorem dX9_hasPlan_7 : decode cX9_hasPlan 7 = .ok (.ireturn, 1) := by decide +kernel
theorem dX9_tokenCount_0 : decode cX9_tokenCount 0 = .ok (.aload_n 0, 1) := by decide +kernel
theorem dX9_tokenCount_1 : decode cX9_tokenCount 1 = .ok (.getfield 51, 3) := by decide +kernel
theorem dX9_tokenCount_4 : decode cX9_tokenCount 4 = .ok (.getfield 170, 3) := by decide +kernel
theorem dX9_tokenCount_7 : decode cX9_tokenCount 7 = .ok (.ifCond .ne 13, 3) := by decide +kernel
theorem dX9_tokenCount_10 : decode cX9_tokenCount 10 = .ok (.new 80, 3) := by decide +kernel
theorem dX9_tokenCount_13 : decode cX9_tokenCount 13 = .ok (.dup, 1) := by decide +kernel
theorem dX9_tokenCount_14 : decode cX9_tokenCount 14 = .ok (.ldc 174, 2) := by decide +kernel
theorem dX9_tokenCount_16 : decode cX9_tokenCount 16 = .ok (.invokespecial 84, 3) := by decide +kernel
theorem dX9_tokenCount_19 : decode cX9_tokenCount 19 = .ok (.athrow, 1) := by decide +kernel
theorem dX9_tokenCount_20 : decode cX9_tokenCount 20 = .ok (.aload_n 0, 1) := by decide +kernel
theorem dX9_tokenCount_21 : decode cX9_tokenCount 21 = .ok (.getfield 51, 3) := by decide +kernel
theorem dX9_tokenCount_24 : decode cX9_tokenCount 24 = .ok (.getfield 176, 3) := by decide +kernel
theorem dX9_tokenCount_27 : decode cX9_tokenCount 27 = .ok (.ireturn, 1) := by decide +kernel
set_option maxRecDepth 20000 in
theorem ggX9_kind_X9_requireToken : GoodIn wsX9_kind wsX9_requireToken := goodIn_ca (goodIn_ca (goodIn_r _ [7, 8, 9, 10, 11, 1, 12, 13, 14, 15, 16, 17, 18, 19, 20, 21, 22, 23, 24, 25, 26, 27] (by decide +kernel) (by decide +kernel)) (goodIn_sub (fun _ h => List.mem_cons_of_mem _ (List.mem_append_left _ (List.mem_append_right _ h))) (by decide +kernel))) (goodIn_sub (fun _ h => List.mem_cons_of_mem _ (List.mem_append_right _ h)) (by decide +kernel))
set_option maxRecDepth 20000 in
theorem gX9_kind_X9_requireToken : GoodIn wsX9_kind (wsV RX9 177 RX9 yX9_requireToken wsX9_requireToken) := goodIn_app (goodIn_of _ (by decide +kernel)) ggX9_kind_X9_requireToken
theorem dX9_kind_0 : decode cX9_kind 0 = .ok (.aload_n 0, 1) := by decide +kernel
theorem dX9_kind_1 : decode cX9_kind 1 = .ok (.iload_n 1, 1) := by decide +kernel
theorem dX9_kind_2 : decode cX9_kind 2 = .ok (.invokevirtual 177, 3) := by decide +kernel
theorem dX9_kind_5 : decode cX9_kind 5 = .ok (.aload_n 0, 1) := by decide +kernel
theorem dX9_kind_6 : decode cX9_kind 6 = .ok (.getfield 51, 3) := by decide +kernel
theorem dX9_kind_9 : decode cX9_kind 9 = .ok (.getfield 180, 3) := by decide +kernel
theorem dX9_kind_12 : decode cX9_kind 12 = .ok (.iload_n 1, 1) := by decide +kernel
theorem dX9_kind_13 : decode cX9_kind 13 = .ok (.iaload, 1) := by decide +kernel
theorem dX9_kind_14 : decode cX9_kind 14 = .ok (.ireturn, 1) := by decide +kernel
set_option maxRecDepth 20000 in
theorem ggX9_length_X9_requireToken : GoodIn wsX9_length wsX9_requireToken := goodIn_ca (goodIn_ca (goodIn_r _ [7, 8, 9, 10, 11, 1, 12, 13, 14, 15, 16, 17, 18, 19, 20, 21, 22, 23, 24, 25, 26, 27] (by decide +kernel) (by decide +kernel)) (goodIn_sub (fun _ h => List.mem_cons_of_mem _ (List.mem_append_left _ (List.mem_append_right _ h))) (by decide +kernel))) (goodIn_sub (fun _ h => List.mem_cons_of_mem _ (List.mem_append_right _ h)) (by decide +kernel))
set_option maxRecDepth 20000 in
theorem gX9_length_X9_requireToken : GoodIn wsX9_length (wsV RX9 177 RX9 yX9_requireToken wsX9_requireToken) := goodIn_app (goodIn_of _ (by decide +kernel)) ggX9_length_X9_requireToken
theorem dX9_length_0 : decode cX9_length 0 = .ok (.aload_n 0, 1) := by decide +kernel
theorem dX9_length_1 : decode cX9_length 1 = .ok (.iload_n 1, 1) := by decide +kernel
theorem dX9_length_2 : decode cX9_length 2 = .ok (.invokevirtual 177, 3) := by decide +kernel
theorem dX9_length_5 : decode cX9_length 5 = .ok (.aload_n 0, 1) := by decide +kernel
theorem dX9_length_6 : decode cX9_length 6 = .ok (.getfield 51, 3) := by decide +kernel
theorem dX9_length_9 : decode cX9_length 9 = .ok (.getfield 183, 3) := by decide +kernel
theorem dX9_length_12 : decode cX9_length 12 = .ok (.iload_n 1, 1) := by decide +kernel
theorem dX9_length_13 : decode cX9_length 13 = .ok (.iaload, 1) := by decide +kernel
theorem dX9_length_14 : decode cX9_length 14 = .ok (.ireturn, 1) := by decide +kernel
set_option maxRecDepth 20000 in
theorem ggX9_distance_X9_requireToken : GoodIn wsX9_distance wsX9_requireToken := goodIn_ca (goodIn_ca (goodIn_r _ [7, 8, 9, 10, 11, 1, 12, 13, 14, 15, 16, 17, 18, 19, 20, 21, 22, 23, 24, 25, 26, 27] (by decide +kernel) (by decide +kernel)) (goodIn_sub (fun _ h => List.mem_cons_of_mem _ (List.mem_append_left _ (List.mem_append_right _ h))) (by decide +kernel))) (goodIn_sub (fun _ h => List.mem_cons_of_mem _ (List.mem_append_right _ h)) (by decide +kernel))
set_option maxRecDepth 20000 in
theorem gX9_distance_X9_requireToken : GoodIn wsX9_distance (wsV RX9 177 RX9 yX9_requireToken wsX9_requireToken) := goodIn_app (goodIn_of _ (by decide +kernel)) ggX9_distance_X9_requireToken
theorem dX9_distance_0 : decode cX9_distance 0 = .ok (.aload_n 0, 1) := by decide +kernel
theorem dX9_distance_1 : decode cX9_distance 1 = .ok (.iload_n 1, 1) := by decide +kernel
theorem dX9_distance_2 : decode cX9_distance 2 = .ok (.invokevirtual 177, 3) := by decide +kernel
theorem dX9_distance_5 : decode cX9_distance 5 = .ok (.aload_n 0, 1) := by decide +kernel
theorem dX9_distance_6 : decode cX9_distance 6 = .ok (.getfield 51, 3) := by decide +kernel
theorem dX9_distance_9 : decode cX9_distance 9 = .ok (.getfield 186, 3) := by decide +kernel
theorem dX9_distance_12 : decode cX9_distance 12 = .ok (.iload_n 1, 1) := by decide +kernel
theorem dX9_distance_13 : decode cX9_distance 13 = .ok (.iaload, 1) := by decide +kernel
theorem dX9_distance_14 : decode cX9_distance 14 = .ok (.ireturn, 1) := by decide +kernel
set_option maxRecDepth 20000 in
theorem ggX9_start_X9_requireToken : GoodIn wsX9_start wsX9_requireToken := goodIn_ca (goodIn_ca (goodIn_r _ [7, 8, 9, 10, 11, 1, 12, 13, 14, 15, 16, 17, 18, 19, 20, 21, 22, 23, 24, 25, 26, 27] (by decide +kernel) (by decide +kernel)) (goodIn_sub (fun _ h => List.mem_cons_of_mem _ (List.mem_append_left _ (List.mem_append_right _ h))) (by decide +kernel))) (goodIn_sub (fun _ h => List.mem_cons_of_mem _ (List.mem_append_right _ h)) (by decide +kernel))
set_option maxRecDepth 20000 in
theorem gX9_start_X9_requireToken : GoodIn wsX9_start (wsV RX9 177 RX9 yX9_requireToken wsX9_requireToken) := goodIn_app (goodIn_of _ (by decide +kernel)) ggX9_start_X9_requireToken
theorem dX9_start_0 : decode cX9_start 0 = .ok (.aload_n 0, 1) := by decide +kernel
theorem dX9_start_1 : decode cX9_start 1 = .ok (.iload_n 1, 1) := by decide +kernel
theorem dX9_start_2 : decode cX9_start 2 = .ok (.invokevirtual 177, 3) := by decide +kernel
theorem dX9_start_5 : decode cX9_start 5 = .ok (.aload_n 0, 1) := by decide +kernel
theorem dX9_start_6 : decode cX9_start 6 = .ok (.getfield 51, 3) := by decide +kernel
theorem dX9_start_9 : decode cX9_start 9 = .ok (.getfield 189, 3) := by decide +kernel
theorem dX9_start_12 : decode cX9_start 12 = .ok (.iload_n 1, 1) := by decide +kernel
theorem dX9_start_13 : decode cX9_start 13 = .ok (.iaload, 1) := by decide +kernel
theorem dX9_start_14 : decode cX9_start 14 = .ok (.ireturn, 1) := by decide +kernel
set_option maxRecDepth 20000 in
theorem ggX9_made_X4_bytesOfKind : GoodIn wsX9_made wsX4_bytesOfKind := goodIn_r _ [11, 12, 13, 14, 23, 24, 25, 26, 27, 28] (by decide +kernel) (by decide +kernel)
set_option maxRecDepth 20000 in
theorem gX9_made_X4_bytesOfKind : GoodIn wsX9_made (wsV RX9 194 RX4 yX4_bytesOfKind wsX4_bytesOfKind) := goodIn_app (goodIn_of _ (by decide +kernel)) ggX9_made_X4_bytesOfKind
theorem dX9_made_0 : decode cX9_made 0 = .ok (.aload_n 0, 1) := by decide +kernel
theorem dX9_made_1 : decode cX9_made 1 = .ok (.getfield 51, 3) := by decide +kernel
theorem dX9_made_4 : decode cX9_made 4 = .ok (.getfield 170, 3) := by decide +kernel
theorem dX9_made_7 : decode cX9_made 7 = .ok (.ifCond .ne 13, 3) := by decide +kernel
theorem dX9_made_10 : decode cX9_made 10 = .ok (.new 80, 3) := by decide +kernel
theorem dX9_made_13 : decode cX9_made 13 = .ok (.dup, 1) := by decide +kernel
theorem dX9_made_14 : decode cX9_made 14 = .ok (.ldc 174, 2) := by decide +kernel
theorem dX9_made_16 : decode cX9_made 16 = .ok (.invokespecial 84, 3) := by decide +kernel
theorem dX9_made_19 : decode cX9_made 19 = .ok (.athrow, 1) := by decide +kernel
theorem dX9_made_20 : decode cX9_made 20 = .ok (.iload_n 1, 1) := by decide +kernel
theorem dX9_made_21 : decode cX9_made 21 = .ok (.ifCond .lt 8, 3) := by decide +kernel
theorem dX9_made_24 : decode cX9_made 24 = .ok (.iload_n 1, 1) := by decide +kernel
theorem dX9_made_25 : decode cX9_made 25 = .ok (.iconst 2, 1) := by decide +kernel
theorem dX9_made_26 : decode cX9_made 26 = .ok (.if_icmp .le 13, 3) := by decide +kernel
theorem dX9_made_29 : decode cX9_made 29 = .ok (.new 105, 3) := by decide +kernel
theorem dX9_made_32 : decode cX9_made 32 = .ok (.dup, 1) := by decide +kernel
theorem dX9_made_33 : decode cX9_made 33 = .ok (.ldc 192, 2) := by decide +kernel
theorem dX9_made_35 : decode cX9_made 35 = .ok (.invokespecial 109, 3) := by decide +kernel
theorem dX9_made_38 : decode cX9_made 38 = .ok (.athrow, 1) := by decide +kernel
theorem dX9_made_39 : decode cX9_made 39 = .ok (.aload_n 0, 1) := by decide +kernel
theorem dX9_made_40 : decode cX9_made 40 = .ok (.getfield 51, 3) := by decide +kernel
theorem dX9_made_43 : decode cX9_made 43 = .ok (.iload_n 1, 1) := by decide +kernel
theorem dX9_made_44 : decode cX9_made 44 = .ok (.invokevirtual 194, 3) := by decide +kernel
theorem dX9_made_47 : decode cX9_made 47 = .ok (.ireturn, 1) := by decide +kernel
set_option maxRecDepth 20000 in
theorem ggX9_ratio_X4_bitsOfAll : GoodIn wsX9_ratio wsX4_bitsOfAll := goodIn_r _ [11, 12, 13, 14, 15, 10, 16, 17, 18, 19, 20, 21, 22, 23, 24, 25, 26, 27, 28, 29, 38, 39, 40, 41, 42, 43] (by decide +kernel) (by decide +kernel)
set_option maxRecDepth 20000 in
theorem gX9_ratio_X4_bitsOfAll : GoodIn wsX9_ratio (wsV RX9 197 RX4 yX4_bitsOfAll wsX4_bitsOfAll) := goodIn_app (goodIn_of _ (by decide +kernel)) ggX9_ratio_X4_bitsOfAll
theorem dX9_ratio_0 : decode cX9_ratio 0 = .ok (.aload_n 0, 1) := by decide +kernel
theorem dX9_ratio_1 : decode cX9_ratio 1 = .ok (.getfield 51, 3) := by decide +kernel
theorem dX9_ratio_4 : decode cX9_ratio 4 = .ok (.getfield 170, 3) := by decide +kernel
theorem dX9_ratio_7 : decode cX9_ratio 7 = .ok (.ifCond .ne 13, 3) := by decide +kernel
theorem dX9_ratio_10 : decode cX9_ratio 10 = .ok (.new 80, 3) := by decide +kernel
theorem dX9_ratio_13 : decode cX9_ratio 13 = .ok (.dup, 1) := by decide +kernel
theorem dX9_ratio_14 : decode cX9_ratio 14 = .ok (.ldc 174, 2) := by decide +kernel
theorem dX9_ratio_16 : decode cX9_ratio 16 = .ok (.invokespecial 84, 3) := by decide +kernel
theorem dX9_ratio_19 : decode cX9_ratio 19 = .ok (.athrow, 1) := by decide +kernel
theorem dX9_ratio_20 : decode cX9_ratio 20 = .ok (.aload_n 0, 1) := by decide +kernel
theorem dX9_ratio_21 : decode cX9_ratio 21 = .ok (.getfield 10, 3) := by decide +kernel
theorem dX9_ratio_24 : decode cX9_ratio 24 = .ok (.getfield 76, 3) := by decide +kernel
theorem dX9_ratio_27 : decode cX9_ratio 27 = .ok (.ifCond .ne 5, 3) := by decide +kernel
theorem dX9_ratio_30 : decode cX9_ratio 30 = .ok (.dconst 0, 1) := by decide +kernel
theorem dX9_ratio_31 : decode cX9_ratio 31 = .ok (.dreturn, 1) := by decide +kernel
theorem dX9_ratio_32 : decode cX9_ratio 32 = .ok (.aload_n 0, 1) := by decide +kernel
theorem dX9_ratio_33 : decode cX9_ratio 33 = .ok (.getfield 51, 3) := by decide +kernel
theorem dX9_ratio_36 : decode cX9_ratio 36 = .ok (.invokevirtual 197, 3) := by decide +kernel
theorem dX9_ratio_39 : decode cX9_ratio 39 = .ok (.i2d, 1) := by decide +kernel
theorem dX9_ratio_40 : decode cX9_ratio 40 = .ok (.bipush 8, 2) := by decide +kernel
theorem dX9_ratio_42 : decode cX9_ratio 42 = .ok (.aload_n 0, 1) := by decide +kernel
theorem dX9_ratio_43 : decode cX9_ratio 43 = .ok (.getfield 10, 3) := by decide +kernel
theorem dX9_ratio_46 : decode cX9_ratio 46 = .ok (.getfield 76, 3) := by decide +kernel
theorem dX9_ratio_49 : decode cX9_ratio 49 = .ok (.imul, 1) := by decide +kernel
theorem dX9_ratio_50 : decode cX9_ratio 50 = .ok (.i2d, 1) := by decide +kernel
theorem dX9_ratio_51 : decode cX9_ratio 51 = .ok (.ddiv, 1) := by decide +kernel
theorem dX9_ratio_52 : decode cX9_ratio 52 = .ok (.dreturn, 1) := by decide +kernel
set_option maxRecDepth 20000 in
theorem ggX9_write_X9_writeToken : GoodIn wsX9_write wsX9_writeToken := goodIn_r _ [12, 3, 13, 5, 14, 15, 16, 17, 18, 19, 20, 21, 22, 23, 24, 25, 26, 27, 28, 29, 30, 31, 32, 33, 34, 35, 36, 37, 38, 39, 40, 41, 42, 43, 44, 45, 46, 47, 48, 51, 52, 49, 50] (by decide +kernel) (by decide +kernel)
set_option maxRecDepth 20000 in
theorem gX9_write_X9_writeToken : GoodIn wsX9_write (wsV RX9 201 RX9 yX9_writeToken wsX9_writeToken) := goodIn_app (goodIn_of _ (by decide +kernel)) ggX9_write_X9_writeToken
theorem dX9_write_0 : decode cX9_write 0 = .ok (.aload_n 0, 1) := by decide +kernel
theorem dX9_write_1 : decode cX9_write 1 = .ok (.getfield 51, 3) := by decide +kernel
theorem dX9_write_4 : decode cX9_write 4 = .ok (.getfield 170, 3) := by decide +kernel
theorem dX9_write_7 : decode cX9_write 7 = .ok (.ifCond .ne 13, 3) := by decide +kernel
theorem dX9_write_10 : decode cX9_write 10 = .ok (.new 80, 3) := by decide +kernel
theorem dX9_write_13 : decode cX9_write 13 = .ok (.dup, 1) := by decide +kernel
theorem dX9_write_14 : decode cX9_write 14 = .ok (.ldc 174, 2) := by decide +kernel
theorem dX9_write_16 : decode cX9_write 16 = .ok (.invokespecial 84, 3) := by decide +kernel
theorem dX9_write_19 : decode cX9_write 19 = .ok (.athrow, 1) := by decide +kernel
theorem dX9_write_20 : decode cX9_write 20 = .ok (.aload_n 0, 1) := by decide +kernel
theorem dX9_write_21 : decode cX9_write 21 = .ok (.getfield 58, 3) := by decide +kernel
theorem dX9_write_24 : decode cX9_write 24 = .ok (.iconst 0, 1) := by decide +kernel
theorem dX9_write_25 : decode cX9_write 25 = .ok (.putfield 200, 3) := by decide +kernel
theorem dX9_write_28 : decode cX9_write 28 = .ok (.iconst 0, 1) := by decide +kernel
theorem dX9_write_29 : decode cX9_write 29 = .ok (.istore_n 1, 1) := by decide +kernel
theorem dX9_write_30 : decode cX9_write 30 = .ok (.iload_n 1, 1) := by decide +kernel
theorem dX9_write_31 : decode cX9_write 31 = .ok (.aload_n 0, 1) := by decide +kernel
theorem dX9_write_32 : decode cX9_write 32 = .ok (.getfield 51, 3) := by decide +kernel
theorem dX9_write_35 : decode cX9_write 35 = .ok (.getfield 176, 3) := by decide +kernel
theorem dX9_write_38 : decode cX9_write 38 = .ok (.if_icmp .ge 14, 3) := by decide +kernel
theorem dX9_write_41 : decode cX9_write 41 = .ok (.aload_n 0, 1) := by decide +kernel
theorem dX9_write_42 : decode cX9_write 42 = .ok (.iload_n 1, 1) := by decide +kernel
theorem dX9_write_43 : decode cX9_write 43 = .ok (.invokevirtual 201, 3) := by decide +kernel
theorem dX9_write_46 : decode cX9_write 46 = .ok (.iinc 1 1, 3) := by decide +kernel
theorem dX9_write_49 : decode cX9_write 49 = .ok (.goto (-19), 3) := by decide +kernel
theorem dX9_write_52 : decode cX9_write 52 = .ok (.aload_n 0, 1) := by decide +kernel
theorem dX9_write_53 : decode cX9_write 53 = .ok (.getfield 58, 3) := by decide +kernel
theorem dX9_write_56 : decode cX9_write 56 = .ok (.getfield 200, 3) := by decide +kernel
theorem dX9_write_59 : decode cX9_write 59 = .ok (.ireturn, 1) := by decide +kernel
theorem dX9_bitCount_0 : decode cX9_bitCount 0 = .ok (.aload_n 0, 1) := by decide +kernel
theorem dX9_bitCount_1 : decode cX9_bitCount 1 = .ok (.getfield 58, 3) := by decide +kernel
theorem dX9_bitCount_4 : decode cX9_bitCount 4 = .ok (.getfield 200, 3) := by decide +kernel
theorem dX9_bitCount_7 : decode cX9_bitCount 7 = .ok (.ireturn, 1) := by decide +kernel
set_option maxRecDepth 20000 in
theorem ggX9_bit_X1_has : GoodIn wsX9_bit wsX1_has := goodIn_r _ [9, 10, 19, 20] (by decide +kernel) (by decide +kernel)
set_option maxRecDepth 20000 in
theorem gX9_bit_X1_has : GoodIn wsX9_bit (wsV RX9 204 RX1 yX1_has wsX1_has) := goodIn_app (goodIn_of _ (by decide +kernel)) ggX9_bit_X1_has
theorem dX9_bit_0 : decode cX9_bit 0 = .ok (.aload_n 0, 1) := by decide +kernel
theorem dX9_bit_1 : decode cX9_bit 1 = .ok (.getfield 58, 3) := by decide +kernel
theorem dX9_bit_4 : decode cX9_bit 4 = .ok (.iload_n 1, 1) := by decide +kernel
theorem dX9_bit_5 : decode cX9_bit 5 = .ok (.invokevirtual 204, 3) := by decide +kernel
theorem dX9_bit_8 : decode cX9_bit 8 = .ok (.ifCond .ne 13, 3) := by decide +kernel
theorem dX9_bit_11 : decode cX9_bit 11 = .ok (.new 105, 3) := by decide +kernel
theorem dX9_bit_14 : decode cX9_bit 14 = .ok (.dup, 1) := by decide +kernel
theorem dX9_bit_15 : decode cX9_bit 15 = .ok (.ldc 205, 2) := by decide +kernel
theorem dX9_bit_17 : decode cX9_bit 17 = .ok (.invokespecial 109, 3) := by decide +kernel
theorem dX9_bit_20 : decode cX9_bit 20 = .ok (.athrow, 1) := by decide +kernel
theorem dX9_bit_21 : decode cX9_bit 21 = .ok (.aload_n 0, 1) := by decide +kernel
theorem dX9_bit_22 : decode cX9_bit 22 = .ok (.getfield 58, 3) := by decide +kernel
theorem dX9_bit_25 : decode cX9_bit 25 = .ok (.getfield 207, 3) := by decide +kernel
theorem dX9_bit_28 : decode cX9_bit 28 = .ok (.iload_n 1, 1) := by decide +kernel
theorem dX9_bit_29 : decode cX9_bit 29 = .ok (.iaload, 1) := by decide +kernel
theorem dX9_bit_30 : decode cX9_bit 30 = .ok (.ireturn, 1) := by decide +kernel
set_option maxRecDepth 20000 in
theorem ggX9_flip_X1_has : GoodIn wsX9_flip wsX1_has := goodIn_r _ [9, 10, 19, 20] (by decide +kernel) (by decide +kernel)
set_option maxRecDepth 20000 in
theorem gX9_flip_X1_has : GoodIn wsX9_flip (wsV RX9 204 RX1 yX1_has wsX1_has) := goodIn_app (goodIn_of _ (by decide +kernel)) ggX9_flip_X1_has
theorem dX9_flip_0 : decode cX9_flip 0 = .ok (.aload_n 0, 1) := by decide +kernel
theorem dX9_flip_1 : decode cX9_flip 1 = .ok (.getfield 58, 3) := by decide +kernel
theorem dX9_flip_4 : decode cX9_flip 4 = .ok (.iload_n 1, 1) := by decide +kernel
theorem dX9_flip_5 : decode cX9_flip 5 = .ok (.invokevirtual 204, 3) := by decide +kernel
theorem dX9_flip_8 : decode cX9_flip 8 = .ok (.ifCond .ne 13, 3) := by decide +kernel
theorem dX9_flip_11 : decode cX9_flip 11 = .ok (.new 105, 3) := by decide +kernel
theorem dX9_flip_14 : decode cX9_flip 14 = .ok (.dup, 1) := by decide +kernel
theorem dX9_flip_15 : decode cX9_flip 15 = .ok (.ldc 205, 2) := by decide +kernel
theorem dX9_flip_17 : decode cX9_flip 17 = .ok (.invokespecial 109, 3) := by decide +kernel
theorem dX9_flip_20 : decode cX9_flip 20 = .ok (.athrow, 1) := by decide +kernel
theorem dX9_flip_21 : decode cX9_flip 21 = .ok (.aload_n 0, 1) := by decide +kernel
theorem dX9_flip_22 : decode cX9_flip 22 = .ok (.getfield 58, 3) := by decide +kernel
theorem dX9_flip_25 : decode cX9_flip 25 = .ok (.getfield 207, 3) := by decide +kernel
theorem dX9_flip_28 : decode cX9_flip 28 = .ok (.iload_n 1, 1) := by decide +kernel
theorem dX9_flip_29 : decode cX9_flip 29 = .ok (.iaload, 1) := by decide +kernel
theorem dX9_flip_30 : decode cX9_flip 30 = .ok (.istore_n 2, 1) := by decide +kernel
theorem dX9_flip_31 : decode cX9_flip 31 = .ok (.aload_n 0, 1) := by decide +kernel
theorem dX9_flip_32 : decode cX9_flip 32 = .ok (.getfield 58, 3) := by decide +kernel
theorem dX9_flip_35 : decode cX9_flip 35 = .ok (.getfield 207, 3) := by decide +kernel
theorem dX9_flip_38 : decode cX9_flip 38 = .ok (.iload_n 1, 1) := by decide +kernel
theorem dX9_flip_39 : decode cX9_flip 39 = .ok (.iconst 1, 1) := by decide +kernel
theorem dX9_flip_40 : decode cX9_flip 40 = .ok (.iload_n 2, 1) := by decide +kernel
theorem dX9_flip_41 : decode cX9_flip 41 = .ok (.isub, 1) := by decide +kernel
theorem dX9_flip_42 : decode cX9_flip 42 = .ok (.iastore, 1) := by decide +kernel
theorem dX9_flip_43 : decode cX9_flip 43 = .ok (.iload_n 2, 1) := by decide +kernel
theorem dX9_flip_44 : decode cX9_flip 44 = .ok (.ireturn, 1) := by decide +kernel
set_option maxRecDepth 20000 in
theorem ggX9_appendBits_X1_pushLow : GoodIn wsX9_appendBits wsX1_pushLow := goodIn_r _ [11, 12, 13, 22, 23] (by decide +kernel) (by decide +kernel)
set_option maxRecDepth 20000 in
theorem gX9_appendBits_X1_pushLow : GoodIn wsX9_appendBits (wsV RX9 214 RX1 yX1_pushLow wsX1_pushLow) := goodIn_app (goodIn_of _ (by decide +kernel)) ggX9_appendBits_X1_pushLow
theorem dX9_appendBits_0 : decode cX9_appendBits 0 = .ok (.iload_n 2, 1) := by decide +kernel
theorem dX9_appendBits_1 : decode cX9_appendBits 1 = .ok (.iconst 1, 1) := by decide +kernel
theorem dX9_appendBits_2 : decode cX9_appendBits 2 = .ok (.if_icmp .lt 9, 3) := by decide +kernel
theorem dX9_appendBits_5 : decode cX9_appendBits 5 = .ok (.iload_n 2, 1) := by decide +kernel
theorem dX9_appendBits_6 : decode cX9_appendBits 6 = .ok (.bipush 16, 2) := by decide +kernel
theorem dX9_appendBits_8 : decode cX9_appendBits 8 = .ok (.if_icmp .le 13, 3) := by decide +kernel
theorem dX9_appendBits_11 : decode cX9_appendBits 11 = .ok (.new 69, 3) := by decide +kernel
theorem dX9_appendBits_14 : decode cX9_appendBits 14 = .ok (.dup, 1) := by decide +kernel
theorem dX9_appendBits_15 : decode cX9_appendBits 15 = .ok (.ldc 210, 2) := by decide +kernel
theorem dX9_appendBits_17 : decode cX9_appendBits 17 = .ok (.invokespecial 73, 3) := by decide +kernel
theorem dX9_appendBits_20 : decode cX9_appendBits 20 = .ok (.athrow, 1) := by decide +kernel
theorem dX9_appendBits_21 : decode cX9_appendBits 21 = .ok (.aload_n 0, 1) := by decide +kernel
theorem dX9_appendBits_22 : decode cX9_appendBits 22 = .ok (.getfield 58, 3) := by decide +kernel
theorem dX9_appendBits_25 : decode cX9_appendBits 25 = .ok (.getfield 200, 3) := by decide +kernel
theorem dX9_appendBits_28 : decode cX9_appendBits 28 = .ok (.iload_n 2, 1) := by decide +kernel
theorem dX9_appendBits_29 : decode cX9_appendBits 29 = .ok (.iadd, 1) := by decide +kernel
theorem dX9_appendBits_30 : decode cX9_appendBits 30 = .ok (.sipush 800, 3) := by decide +kernel
theorem dX9_appendBits_33 : decode cX9_appendBits 33 = .ok (.if_icmp .le 13, 3) := by decide +kernel
theorem dX9_appendBits_36 : decode cX9_appendBits 36 = .ok (.new 80, 3) := by decide +kernel
theorem dX9_appendBits_39 : decode cX9_appendBits 39 = .ok (.dup, 1) := by decide +kernel
theorem dX9_appendBits_40 : decode cX9_appendBits 40 = .ok (.ldc 212, 2) := by decide +kernel
theorem dX9_appendBits_42 : decode cX9_appendBits 42 = .ok (.invokespecial 84, 3) := by decide +kernel
theorem dX9_appendBits_45 : decode cX9_appendBits 45 = .ok (.athrow, 1) := by decide +kernel
theorem dX9_appendBits_46 : decode cX9_appendBits 46 = .ok (.aload_n 0, 1) := by decide +kernel
theorem dX9_appendBits_47 : decode cX9_appendBits 47 = .ok (.getfield 58, 3) := by decide +kernel
theorem dX9_appendBits_50 : decode cX9_appendBits 50 = .ok (.iload_n 1, 1) := by decide +kernel
theorem dX9_appendBits_51 : decode cX9_appendBits 51 = .ok (.iload_n 2, 1) := by decide +kernel
theorem dX9_appendBits_52 : decode cX9_appendBits 52 = .ok (.invokevirtual 214, 3) := by decide +kernel
theorem dX9_appendBits_55 : decode cX9_appendBits 55 = .ok (.aload_n 0, 1) := by decide +kernel
theorem dX9_appendBits_56 : decode cX9_appendBits 56 = .ok (.getfield 58, 3) := by decide +kernel
theorem dX9_appendBits_59 : decode cX9_appendBits 59 = .ok (.getfield 200, 3) := by decide +kernel
theorem dX9_appendBits_62 : decode cX9_appendBits 62 = .ok (.ireturn, 1) := by decide +kernel
theorem dX9_cutBits_0 : decode cX9_cutBits 0 = .ok (.iload_n 1, 1) := by decide +kernel
theorem dX9_cutBits_1 : decode cX9_cutBits 1 = .ok (.ifCond .lt 14, 3) := by decide +kernel
theorem dX9_cutBits_4 : decode cX9_cutBits 4 = .ok (.iload_n 1, 1) := by decide +kernel
theorem dX9_cutBits_5 : decode cX9_cutBits 5 = .ok (.aload_n 0, 1) := by decide +kernel
theorem dX9_cutBits_6 : decode cX9_cutBits 6 = .ok (.getfield 58, 3) := by decide +kernel
theorem dX9_cutBits_9 : decode cX9_cutBits 9 = .ok (.getfield 200, 3) := by decide +kernel
theorem dX9_cutBits_12 : decode cX9_cutBits 12 = .ok (.if_icmp .le 13, 3) := by decide +kernel
theorem dX9_cutBits_15 : decode cX9_cutBits 15 = .ok (.new 69, 3) := by decide +kernel
theorem dX9_cutBits_18 : decode cX9_cutBits 18 = .ok (.dup, 1) := by decide +kernel
theorem dX9_cutBits_19 : decode cX9_cutBits 19 = .ok (.ldc 218, 2) := by decide +kernel
theorem dX9_cutBits_21 : decode cX9_cutBits 21 = .ok (.invokespecial 73, 3) := by decide +kernel
theorem dX9_cutBits_24 : decode cX9_cutBits 24 = .ok (.athrow, 1) := by decide +kernel
theorem dX9_cutBits_25 : decode cX9_cutBits 25 = .ok (.aload_n 0, 1) := by decide +kernel
theorem dX9_cutBits_26 : decode cX9_cutBits 26 = .ok (.getfield 58, 3) := by decide +kernel
theorem dX9_cutBits_29 : decode cX9_cutBits 29 = .ok (.dup, 1) := by decide +kernel
theorem dX9_cutBits_30 : decode cX9_cutBits 30 = .ok (.getfield 200, 3) := by decide +kernel
theorem dX9_cutBits_33 : decode cX9_cutBits 33 = .ok (.iload_n 1, 1) := by decide +kernel
theorem dX9_cutBits_34 : decode cX9_cutBits 34 = .ok (.isub, 1) := by decide +kernel
theorem dX9_cutBits_35 : decode cX9_cutBits 35 = .ok (.putfield 200, 3) := by decide +kernel
theorem dX9_cutBits_38 : decode cX9_cutBits 38 = .ok (.aload_n 0, 1) := by decide +kernel
theorem dX9_cutBits_39 : decode cX9_cutBits 39 = .ok (.getfield 58, 3) := by decide +kernel
theorem dX9_cutBits_42 : decode cX9_cutBits 42 = .ok (.getfield 200, 3) := by decide +kernel
theorem dX9_cutBits_45 : decode cX9_cutBits 45 = .ok (.ireturn, 1) := by decide +kernel
set_option maxRecDepth 20000 in
theorem ggX9_read_X6_readAll : GoodIn wsX9_read wsX6_readAll := goodIn_r _ [7, 8, 9, 10, 11, 12, 13, 14, 15, 6, 16, 17, 18, 19, 20, 21, 22, 23, 24, 25, 26, 27, 28, 29, 30, 31, 32, 33, 34, 35, 36, 37, 38, 39, 40, 41, 42, 43, 44, 45, 46, 55, 56, 57, 58, 59, 60, 61] (by decide +kernel) (by decide +kernel)
set_option maxRecDepth 20000 in
theorem gX9_read_X6_readAll : GoodIn wsX9_read (wsV RX9 220 RX6 yX6_readAll wsX6_readAll) := goodIn_app (goodIn_of _ (by decide +kernel)) ggX9_read_X6_readAll
theorem dX9_read_0 : decode cX9_read 0 = .ok (.aload_n 0, 1) := by decide +kernel
theorem dX9_read_1 : decode cX9_read 1 = .ok (.getfield 65, 3) := by decide +kernel
theorem dX9_read_4 : decode cX9_read 4 = .ok (.aload_n 0, 1) := by decide +kernel
theorem dX9_read_5 : decode cX9_read 5 = .ok (.getfield 58, 3) := by decide +kernel
theorem dX9_read_8 : decode cX9_read 8 = .ok (.invokevirtual 220, 3) := by decide +kernel
theorem dX9_read_11 : decode cX9_read 11 = .ok (.ireturn, 1) := by decide +kernel
theorem dX9_errorPosition_0 : decode cX9_errorPosition 0 = .ok (.aload_n 0, 1) := by decide +kernel
theorem dX9_errorPosition_1 : decode cX9_errorPosition 1 = .ok (.getfield 65, 3) := by decide +kernel
theorem dX9_errorPosition_4 : decode cX9_errorPosition 4 = .ok (.getfield 224, 3) := by decide +kernel
theorem dX9_errorPosition_7 : decode cX9_errorPosition 7 = .ok (.ireturn, 1) := by decide +kernel
theorem dX9_outputSize_0 : decode cX9_outputSize 0 = .ok (.aload_n 0, 1) := by decide +kernel
theorem dX9_outputSize_1 : decode cX9_outputSize 1 = .ok (.getfield 65, 3) := by decide +kernel
theorem dX9_outputSize_4 : decode cX9_outputSize 4 = .ok (.getfield 227, 3) := by decide +kernel
theorem dX9_outputSize_7 : decode cX9_outputSize 7 = .ok (.ireturn, 1) := by decide +kernel
theorem dX9_output_0 : decode cX9_output 0 = .ok (.iload_n 1, 1) := by decide +kernel
theorem dX9_output_1 : decode cX9_output 1 = .ok (.ifCond .lt 14, 3) := by decide +kernel
theorem dX9_output_4 : decode cX9_output 4 = .ok (.iload_n 1, 1) := by decide +kernel
theorem dX9_output_5 : decode cX9_output 5 = .ok (.aload_n 0, 1) := by decide +kernel
theorem dX9_output_6 : decode cX9_output 6 = .ok (.getfield 65, 3) := by decide +kernel
theorem dX9_output_9 : decode cX9_output 9 = .ok (.getfield 227, 3) := by decide +kernel
theorem dX9_output_12 : decode cX9_output 12 = .ok (.if_icmp .lt 13, 3) := by decide +kernel
theorem dX9_output_15 : decode cX9_output 15 = .ok (.new 105, 3) := by decide +kernel
theorem dX9_output_18 : decode cX9_output 18 = .ok (.dup, 1) := by decide +kernel
theorem dX9_output_19 : decode cX9_output 19 = .ok (.ldc 107, 2) := by decide +kernel
theorem dX9_output_21 : decode cX9_output 21 = .ok (.invokespecial 109, 3) := by decide +kernel
theorem dX9_output_24 : decode cX9_output 24 = .ok (.athrow, 1) := by decide +kernel
theorem dX9_output_25 : decode cX9_output 25 = .ok (.aload_n 0, 1) := by decide +kernel
theorem dX9_output_26 : decode cX9_output 26 = .ok (.getfield 65, 3) := by decide +kernel
theorem dX9_output_29 : decode cX9_output 29 = .ok (.getfield 228, 3) := by decide +kernel
theorem dX9_output_32 : decode cX9_output 32 = .ok (.iload_n 1, 1) := by decide +kernel
theorem dX9_output_33 : decode cX9_output 33 = .ok (.iaload, 1) := by decide +kernel
theorem dX9_output_34 : decode cX9_output 34 = .ok (.ireturn, 1) := by decide +kernel
theorem dX9_differences_0 : decode cX9_differences 0 = .ok (.aload_n 0, 1) := by decide +kernel
theorem dX9_differences_1 : decode cX9_differences 1 = .ok (.getfield 10, 3) := by decide +kernel
theorem dX9_differences_4 : decode cX9_differences 4 = .ok (.getfield 76, 3) := by decide +kernel
theorem dX9_differences_7 : decode cX9_differences 7 = .ok (.aload_n 0, 1) := by decide +kernel
theorem dX9_differences_8 : decode cX9_differences 8 = .ok (.getfield 65, 3) := by decide +kernel
theorem dX9_differences_11 : decode cX9_differences 11 = .ok (.getfield 227, 3) := by decide +kernel
theorem dX9_differences_14 : decode cX9_differences 14 = .ok (.invokestatic 229, 3) := by decide +kernel
theorem dX9_differences_17 : decode cX9_differences 17 = .ok (.istore_n 1, 1) := by decide +kernel
theorem dX9_differences_18 : decode cX9_differences 18 = .ok (.aload_n 0, 1) := by decide +kernel
theorem dX9_differences_19 : decode cX9_differences 19 = .ok (.getfield 10, 3) := by decide +kernel
theorem dX9_differences_22 : decode cX9_differences 22 = .ok (.getfield 76, 3) := by decide +kernel
theorem dX9_differences_25 : decode cX9_differences 25 = .ok (.aload_n 0, 1) := by decide +kernel
theorem dX9_differences_26 : decode cX9_differences 26 = .ok (.getfield 65, 3) := by decide +kernel
theorem dX9_differences_29 : decode cX9_differences 29 = .ok (.getfield 227, 3) := by decide +kernel
theorem dX9_differences_32 : decode cX9_differences 32 = .ok (.invokestatic 234, 3) := by decide +kernel
theorem dX9_differences_35 : decode cX9_differences 35 = .ok (.istore_n 2, 1) := by decide +kernel
theorem dX9_differences_36 : decode cX9_differences 36 = .ok (.iload_n 2, 1) := by decide +kernel
theorem dX9_differences_37 : decode cX9_differences 37 = .ok (.iload_n 1, 1) := by decide +kernel
theorem dX9_differences_38 : decode cX9_differences 38 = .ok (.isub, 1) := by decide +kernel
theorem dX9_differences_39 : decode cX9_differences 39 = .ok (.istore_n 3, 1) := by decide +kernel
theorem dX9_differences_40 : decode cX9_differences 40 = .ok (.iconst 0, 1) := by decide +kernel
theorem dX9_differences_41 : decode cX9_differences 41 = .ok (.istore 4, 2) := by decide +kernel
theorem dX9_differences_43 : decode cX9_differences 43 = .ok (.iload 4, 2) := by decide +kernel
theorem dX9_differences_45 : decode cX9_differences 45 = .ok (.iload_n 1, 1) := by decide +kernel
theorem dX9_differences_46 : decode cX9_differences 46 = .ok (.if_icmp .ge 35, 3) := by decide +kernel
theorem dX9_differences_49 : decode cX9_differences 49 = .ok (.aload_n 0, 1) := by decide +kernel
theorem dX9_differences_50 : decode cX9_differences 50 = .ok (.getfield 10, 3) := by decide +kernel
theorem dX9_differences_53 : decode cX9_differences 53 = .ok (.getfield 112, 3) := by decide +kernel
theorem dX9_differences_56 : decode cX9_differences 56 = .ok (.iload 4, 2) := by decide +kernel
theorem dX9_differences_58 : decode cX9_differences 58 = .ok (.iaload, 1) := by decide +kernel
theorem dX9_differences_59 : decode cX9_differences 59 = .ok (.aload_n 0, 1) := by decide +kernel
theorem dX9_differences_60 : decode cX9_differences 60 = .ok (.getfield 65, 3) := by decide +kernel
theorem dX9_differences_63 : decode cX9_differences 63 = .ok (.getfield 228, 3) := by decide +kernel
theorem dX9_differences_66 : decode cX9_differences 66 = .ok (.iload 4, 2) := by decide +kernel
theorem dX9_differences_68 : decode cX9_differences 68 = .ok (.iaload, 1) := by decide +kernel
theorem dX9_differences_69 : decode cX9_differences 69 = .ok (.if_icmp .eq 6, 3) := by decide +kernel
theorem dX9_differences_72 : decode cX9_differences 72 = .ok (.iinc 3 1, 3) := by decide +kernel
theorem dX9_differences_75 : decode cX9_differences 75 = .ok (.iinc 4 1, 3) := by decide +kernel
theorem dX9_differences_78 : decode cX9_differences 78 = .ok (.goto (-35), 3) := by decide +kernel
theorem dX9_differences_81 : decode cX9_differences 81 = .ok (.iload_n 3, 1) := by decide +kernel
theorem dX9_differences_82 : decode cX9_differences 82 = .ok (.ireturn, 1) := by decide +kernel
set_option maxRecDepth 20000 in
theorem ggX9_digest_X9_mixRow : GoodIn wsX9_digest wsX9_mixRow := goodIn_r _ [21, 22, 23, 20, 24, 25] (by decide +kernel) (by decide +kernel)
set_option maxRecDepth 20000 in
theorem gX9_digest_X9_mixRow : GoodIn wsX9_digest (va_wsS RX9 239 yX9_mixRow wsX9_mixRow) := goodIn_app (goodIn_of _ (by decide +kernel)) ggX9_digest_X9_mixRow
set_option maxRecDepth 20000 in
theorem ggX9_digest_X9_mix : GoodIn wsX9_digest wsX9_mix := goodIn_r _ [24, 25] (by decide +kernel) (by decide +kernel)
set_option maxRecDepth 20000 in
theorem gX9_digest_X9_mix : GoodIn wsX9_digest (va_wsS RX9 243 yX9_mix wsX9_mix) := goodIn_app (goodIn_of _ (by decide +kernel)) ggX9_digest_X9_mix
set_option maxRecDepth 20000 in
theorem ggX9_digest_X9_mixPlan : GoodIn wsX9_digest wsX9_mixPlan := goodIn_r _ [29, 10, 30, 31, 32, 33, 22, 23, 20, 24, 25, 34, 35, 36, 37, 38, 39, 40, 41, 48, 49, 50, 51, 52, 53] (by decide +kernel) (by decide +kernel)
set_option maxRecDepth 20000 in
theorem gX9_digest_X9_mixPlan : GoodIn wsX9_digest (wsV RX9 247 RX9 yX9_mixPlan wsX9_mixPlan) := goodIn_app (goodIn_of _ (by decide +kernel)) ggX9_digest_X9_mixPlan
theorem dX9_digest_0 : decode cX9_digest 0 = .ok (.ldc2_w 237, 3) := by decide +kernel
theorem dX9_digest_3 : decode cX9_digest 3 = .ok (.aload_n 0, 1) := by decide +kernel
theorem dX9_digest_4 : decode cX9_digest 4 = .ok (.getfield 10, 3) := by decide +kernel
theorem dX9_digest_7 : decode cX9_digest 7 = .ok (.getfield 112, 3) := by decide +kernel
theorem dX9_digest_10 : decode cX9_digest 10 = .ok (.aload_n 0, 1) := by decide +kernel
theorem dX9_digest_11 : decode cX9_digest 11 = .ok (.getfield 10, 3) := by decide +kernel
theorem dX9_digest_14 : decode cX9_digest 14 = .ok (.getfield 76, 3) := by decide +kernel
theorem dX9_digest_17 : decode cX9_digest 17 = .ok (.invokestatic 239, 3) := by decide +kernel
theorem dX9_digest_20 : decode cX9_digest 20 = .ok (.lstore_n 1, 1) := by decide +kernel
theorem dX9_digest_21 : decode cX9_digest 21 = .ok (.lload_n 1, 1) := by decide +kernel
theorem dX9_digest_22 : decode cX9_digest 22 = .ok (.aload_n 0, 1) := by decide +kernel
theorem dX9_digest_23 : decode cX9_digest 23 = .ok (.getfield 19, 3) := by decide +kernel
theorem dX9_digest_26 : decode cX9_digest 26 = .ok (.getfield 118, 3) := by decide +kernel
theorem dX9_digest_29 : decode cX9_digest 29 = .ok (.invokestatic 243, 3) := by decide +kernel
theorem dX9_digest_32 : decode cX9_digest 32 = .ok (.lstore_n 1, 1) := by decide +kernel
theorem dX9_digest_33 : decode cX9_digest 33 = .ok (.lload_n 1, 1) := by decide +kernel
theorem dX9_digest_34 : decode cX9_digest 34 = .ok (.aload_n 0, 1) := by decide +kernel
theorem dX9_digest_35 : decode cX9_digest 35 = .ok (.getfield 19, 3) := by decide +kernel
theorem dX9_digest_38 : decode cX9_digest 38 = .ok (.getfield 125, 3) := by decide +kernel
theorem dX9_digest_41 : decode cX9_digest 41 = .ok (.invokestatic 243, 3) := by decide +kernel
theorem dX9_digest_44 : decode cX9_digest 44 = .ok (.lstore_n 1, 1) := by decide +kernel
theorem dX9_digest_45 : decode cX9_digest 45 = .ok (.lload_n 1, 1) := by decide +kernel
theorem dX9_digest_46 : decode cX9_digest 46 = .ok (.aload_n 0, 1) := by decide +kernel
theorem dX9_digest_47 : decode cX9_digest 47 = .ok (.getfield 19, 3) := by decide +kernel
theorem dX9_digest_50 : decode cX9_digest 50 = .ok (.getfield 128, 3) := by decide +kernel
theorem dX9_digest_53 : decode cX9_digest 53 = .ok (.invokestatic 243, 3) := by decide +kernel
theorem dX9_digest_56 : decode cX9_digest 56 = .ok (.lstore_n 1, 1) := by decide +kernel
theorem dX9_digest_57 : decode cX9_digest 57 = .ok (.lload_n 1, 1) := by decide +kernel
theorem dX9_digest_58 : decode cX9_digest 58 = .ok (.aload_n 0, 1) := by decide +kernel
theorem dX9_digest_59 : decode cX9_digest 59 = .ok (.getfield 19, 3) := by decide +kernel
theorem dX9_digest_62 : decode cX9_digest 62 = .ok (.getfield 133, 3) := by decide +kernel
theorem dX9_digest_65 : decode cX9_digest 65 = .ok (.invokestatic 243, 3) := by decide +kernel
theorem dX9_digest_68 : decode cX9_digest 68 = .ok (.lstore_n 1, 1) := by decide +kernel
theorem dX9_digest_69 : decode cX9_digest 69 = .ok (.aload_n 0, 1) := by decide +kernel
theorem dX9_digest_70 : decode cX9_digest 70 = .ok (.getfield 51, 3) := by decide +kernel
theorem dX9_digest_73 : decode cX9_digest 73 = .ok (.getfield 170, 3) := by decide +kernel
theorem dX9_digest_76 : decode cX9_digest 76 = .ok (.ifCond .eq 9, 3) := by decide +kernel
theorem dX9_digest_79 : decode cX9_digest 79 = .ok (.aload_n 0, 1) := by decide +kernel
theorem dX9_digest_80 : decode cX9_digest 80 = .ok (.lload_n 1, 1) := by decide +kernel
theorem dX9_digest_81 : decode cX9_digest 81 = .ok (.invokevirtual 247, 3) := by decide +kernel
theorem dX9_digest_84 : decode cX9_digest 84 = .ok (.lstore_n 1, 1) := by decide +kernel
theorem dX9_digest_85 : decode cX9_digest 85 = .ok (.lload_n 1, 1) := by decide +kernel
theorem dX9_digest_86 : decode cX9_digest 86 = .ok (.aload_n 0, 1) := by decide +kernel
theorem dX9_digest_87 : decode cX9_digest 87 = .ok (.getfield 58, 3) := by decide +kernel
theorem dX9_digest_90 : decode cX9_digest 90 = .ok (.getfield 207, 3) := by decide +kernel
theorem dX9_digest_93 : decode cX9_digest 93 = .ok (.aload_n 0, 1) := by decide +kernel
theorem dX9_digest_94 : decode cX9_digest 94 = .ok (.getfield 58, 3) := by decide +kernel
theorem dX9_digest_97 : decode cX9_digest 97 = .ok (.getfield 200, 3) := by decide +kernel
theorem dX9_digest_100 : decode cX9_digest 100 = .ok (.invokestatic 239, 3) := by decide +kernel
theorem dX9_digest_103 : decode cX9_digest 103 = .ok (.lstore_n 1, 1) := by decide +kernel
theorem dX9_digest_104 : decode cX9_digest 104 = .ok (.lload_n 1, 1) := by decide +kernel
theorem dX9_digest_105 : decode cX9_digest 105 = .ok (.aload_n 0, 1) := by decide +kernel
theorem dX9_digest_106 : decode cX9_digest 106 = .ok (.getfield 65, 3) := by decide +kernel
theorem dX9_digest_109 : decode cX9_digest 109 = .ok (.getfield 228, 3) := by decide +kernel
theorem dX9_digest_112 : decode cX9_digest 112 = .ok (.aload_n 0, 1) := by decide +kernel
theorem dX9_digest_113 : decode cX9_digest 113 = .ok (.getfield 65, 3) := by decide +kernel
theorem dX9_digest_116 : decode cX9_digest 116 = .ok (.getfield 227, 3) := by decide +kernel
theorem dX9_digest_119 : decode cX9_digest 119 = .ok (.invokestatic 239, 3) := by decide +kernel
theorem dX9_digest_122 : decode cX9_digest 122 = .ok (.lreturn, 1) := by decide +kernel
theorem dX9_isByte_0 : decode cX9_isByte 0 = .ok (.iload_n 0, 1) := by decide +kernel
theorem dX9_isByte_1 : decode cX9_isByte 1 = .ok (.ifCond .lt 14, 3) := by decide +kernel
theorem dX9_isByte_4 : decode cX9_isByte 4 = .ok (.iload_n 0, 1) := by decide +kernel
theorem dX9_isByte_5 : decode cX9_isByte 5 = .ok (.sipush 255, 3) := by decide +kernel
theorem dX9_isByte_8 : decode cX9_isByte 8 = .ok (.if_icmp .gt 7, 3) := by decide +kernel
theorem dX9_isByte_11 : decode cX9_isByte 11 = .ok (.iconst 1, 1) := by decide +kernel
theorem dX9_isByte_12 : decode cX9_isByte 12 = .ok (.goto 4, 3) := by decide +kernel
theorem dX9_isByte_15 : decode cX9_isByte 15 = .ok (.iconst 0, 1) := by decide +kernel
theorem dX9_isByte_16 : decode cX9_isByte 16 = .ok (.ireturn, 1) := by decide +kernel
theorem dX9_requireToken_0 : decode cX9_requireToken 0 = .ok (.aload_n 0, 1) := by decide +kernel
theorem dX9_requireToken_1 : decode cX9_requireToken 1 = .ok (.getfield 51, 3) := by decide +kernel
theorem dX9_requireToken_4 : decode cX9_requireToken 4 = .ok (.getfield 170, 3) := by decide +kernel
theorem dX9_requireToken_7 : decode cX9_requireToken 7 = .ok (.ifCond .ne 13, 3) := by decide +kernel
theorem dX9_requireToken_10 : decode cX9_requireToken 10 = .ok (.new 80, 3) := by decide +kernel
theorem dX9_requireToken_13 : decode cX9_requireToken 13 = .ok (.dup, 1) := by decide +kernel
theorem dX9_requireToken_14 : decode cX9_requireToken 14 = .ok (.ldc 174, 2) := by decide +kernel
theorem dX9_requireToken_16 : decode cX9_requireToken 16 = .ok (.invokespecial 84, 3) := by decide +kernel
theorem dX9_requireToken_19 : decode cX9_requireToken 19 = .ok (.athrow, 1) := by decide +kernel
theorem dX9_requireToken_20 : decode cX9_requireToken 20 = .ok (.iload_n 1, 1) := by decide +kernel
theorem dX9_requireToken_21 : decode cX9_requireToken 21 = .ok (.ifCond .lt 14, 3) := by decide +kernel
theorem dX9_requireToken_24 : decode cX9_requireToken 24 = .ok (.iload_n 1, 1) := by decide +kernel
theorem dX9_requireToken_25 : decode cX9_requireToken 25 = .ok (.aload_n 0, 1) := by decide +kernel
theorem dX9_requireToken_26 : decode cX9_requireToken 26 = .ok (.getfield 51, 3) := by decide +kernel
theorem dX9_requireToken_29 : decode cX9_requireToken 29 = .ok (.getfield 176, 3) := by decide +kernel
theorem dX9_requireToken_32 : decode cX9_requireToken 32 = .ok (.if_icmp .lt 13, 3) := by decide +kernel
theorem dX9_requireToken_35 : decode cX9_requireToken 35 = .ok (.new 105, 3) := by decide +kernel
theorem dX9_requireToken_38 : decode cX9_requireToken 38 = .ok (.dup, 1) := by decide +kernel
theorem dX9_requireToken_39 : decode cX9_requireToken 39 = .ok (.ldc 251, 2) := by decide +kernel
theorem dX9_requireToken_41 : decode cX9_requireToken 41 = .ok (.invokespecial 109, 3) := by decide +kernel
theorem dX9_requireToken_44 : decode cX9_requireToken 44 = .ok (.athrow, 1) := by decide +kernel
theorem dX9_requireToken_45 : decode cX9_requireToken 45 = .ok (.return_, 1) := by decide +kernel
set_option maxRecDepth 20000 in
theorem ggX9_costOfPlan_X4_bitsOfAll : GoodIn wsX9_costOfPlan wsX4_bitsOfAll := goodIn_r _ [9, 10, 11, 12, 13, 8, 14, 15, 16, 17, 18, 19, 20, 21, 22, 23, 24, 25, 26, 27, 40, 41, 42, 43, 44, 45] (by decide +kernel) (by decide +kernel)
set_option maxRecDepth 20000 in
theorem gX9_costOfPlan_X4_bitsOfAll : GoodIn wsX9_costOfPlan (wsV RX9 197 RX4 yX4_bitsOfAll wsX4_bitsOfAll) := goodIn_app (goodIn_of _ (by decide +kernel)) ggX9_costOfPlan_X4_bitsOfAll
theorem dX9_costOfPlan_0 : decode cX9_costOfPlan 0 = .ok (.aload_n 0, 1) := by decide +kernel
theorem dX9_costOfPlan_1 : decode cX9_costOfPlan 1 = .ok (.getfield 51, 3) := by decide +kernel
theorem dX9_costOfPlan_4 : decode cX9_costOfPlan 4 = .ok (.invokevirtual 197, 3) := by decide +kernel
theorem dX9_costOfPlan_7 : decode cX9_costOfPlan 7 = .ok (.aload_n 0, 1) := by decide +kernel
theorem dX9_costOfPlan_8 : decode cX9_costOfPlan 8 = .ok (.getfield 19, 3) := by decide +kernel
theorem dX9_costOfPlan_11 : decode cX9_costOfPlan 11 = .ok (.getfield 133, 3) := by decide +kernel
theorem dX9_costOfPlan_14 : decode cX9_costOfPlan 14 = .ok (.aload_n 0, 1) := by decide +kernel
theorem dX9_costOfPlan_15 : decode cX9_costOfPlan 15 = .ok (.getfield 51, 3) := by decide +kernel
theorem dX9_costOfPlan_18 : decode cX9_costOfPlan 18 = .ok (.getfield 176, 3) := by decide +kernel
theorem dX9_costOfPlan_21 : decode cX9_costOfPlan 21 = .ok (.imul, 1) := by decide +kernel
theorem dX9_costOfPlan_22 : decode cX9_costOfPlan 22 = .ok (.iadd, 1) := by decide +kernel
theorem dX9_costOfPlan_23 : decode cX9_costOfPlan 23 = .ok (.ireturn, 1) := by decide +kernel
set_option maxRecDepth 20000 in
theorem ggX9_writeToken_X1_pushLow : GoodIn wsX9_writeToken wsX1_pushLow := goodIn_r _ [13, 14, 15, 41, 42] (by decide +kernel) (by decide +kernel)
set_option maxRecDepth 20000 in
theorem gX9_writeToken_X1_pushLow : GoodIn wsX9_writeToken (wsV RX9 214 RX1 yX1_pushLow wsX1_pushLow) := goodIn_app (goodIn_of _ (by decide +kernel)) ggX9_writeToken_X1_pushLow
set_option maxRecDepth 20000 in
theorem ggX9_writeToken_X1_pushNumber : GoodIn wsX9_writeToken wsX1_pushNumber := goodIn_r _ [19, 20, 21, 22, 23, 24, 10, 11, 12, 13, 14, 15, 41, 42] (by decide +kernel) (by decide +kernel)
set_option maxRecDepth 20000 in
theorem gX9_writeToken_X1_pushNumber : GoodIn wsX9_writeToken (wsV RX9 253 RX1 yX1_pushNumber wsX1_pushNumber) := goodIn_app (goodIn_of _ (by decide +kernel)) ggX9_writeToken_X1_pushNumber
theorem dX9_writeToken_0 : decode cX9_writeToken 0 = .ok (.aload_n 0, 1) := by decide +kernel
theorem dX9_writeToken_1 : decode cX9_writeToken 1 = .ok (.getfield 51, 3) := by decide +kernel
theorem dX9_writeToken_4 : decode cX9_writeToken 4 = .ok (.getfield 180, 3) := by decide +kernel
theorem dX9_writeToken_7 : decode cX9_writeToken 7 = .ok (.iload_n 1, 1) := by decide +kernel
theorem dX9_writeToken_8 : decode cX9_writeToken 8 = .ok (.iaload, 1) := by decide +kernel
theorem dX9_writeToken_9 : decode cX9_writeToken 9 = .ok (.istore_n 2, 1) := by decide +kernel
theorem dX9_writeToken_10 : decode cX9_writeToken 10 = .ok (.iload_n 2, 1) := by decide +kernel
theorem dX9_writeToken_11 : decode cX9_writeToken 11 = .ok (.ifCond .ne 41, 3) := by decide +kernel
theorem dX9_writeToken_14 : decode cX9_writeToken 14 = .ok (.aload_n 0, 1) := by decide +kernel
theorem dX9_writeToken_15 : decode cX9_writeToken 15 = .ok (.getfield 58, 3) := by decide +kernel
theorem dX9_writeToken_18 : decode cX9_writeToken 18 = .ok (.iconst 0, 1) := by decide +kernel
theorem dX9_writeToken_19 : decode cX9_writeToken 19 = .ok (.iconst 1, 1) := by decide +kernel
theorem dX9_writeToken_20 : decode cX9_writeToken 20 = .ok (.invokevirtual 214, 3) := by decide +kernel
theorem dX9_writeToken_23 : decode cX9_writeToken 23 = .ok (.aload_n 0, 1) := by decide +kernel
theorem dX9_writeToken_24 : decode cX9_writeToken 24 = .ok (.getfield 58, 3) := by decide +kernel
theorem dX9_writeToken_27 : decode cX9_writeToken 27 = .ok (.aload_n 0, 1) := by decide +kernel
theorem dX9_writeToken_28 : decode cX9_writeToken 28 = .ok (.getfield 10, 3) := by decide +kernel
theorem dX9_writeToken_31 : decode cX9_writeToken 31 = .ok (.getfield 112, 3) := by decide +kernel
theorem dX9_writeToken_34 : decode cX9_writeToken 34 = .ok (.aload_n 0, 1) := by decide +kernel
theorem dX9_writeToken_35 : decode cX9_writeToken 35 = .ok (.getfield 51, 3) := by decide +kernel
theorem dX9_writeToken_38 : decode cX9_writeToken 38 = .ok (.getfield 189, 3) := by decide +kernel
theorem dX9_writeToken_41 : decode cX9_writeToken 41 = .ok (.iload_n 1, 1) := by decide +kernel
theorem dX9_writeToken_42 : decode cX9_writeToken 42 = .ok (.iaload, 1) := by decide +kernel
theorem dX9_writeToken_43 : decode cX9_writeToken 43 = .ok (.iaload, 1) := by decide +kernel
theorem dX9_writeToken_44 : decode cX9_writeToken 44 = .ok (.bipush 8, 2) := by decide +kernel
theorem dX9_writeToken_46 : decode cX9_writeToken 46 = .ok (.invokevirtual 214, 3) := by decide +kernel
theorem dX9_writeToken_49 : decode cX9_writeToken 49 = .ok (.goto 79, 3) := by decide +kernel
theorem dX9_writeToken_52 : decode cX9_writeToken 52 = .ok (.iload_n 2, 1) := by decide +kernel
theorem dX9_writeToken_53 : decode cX9_writeToken 53 = .ok (.iconst 1, 1) := by decide +kernel
theorem dX9_writeToken_54 : decode cX9_writeToken 54 = .ok (.if_icmp .ne 49, 3) := by decide +kernel
theorem dX9_writeToken_57 : decode cX9_writeToken 57 = .ok (.aload_n 0, 1) := by decide +kernel
theorem dX9_writeToken_58 : decode cX9_writeToken 58 = .ok (.getfield 58, 3) := by decide +kernel
theorem dX9_writeToken_61 : decode cX9_writeToken 61 = .ok (.iconst 2, 1) := by decide +kernel
theorem dX9_writeToken_62 : decode cX9_writeToken 62 = .ok (.iconst 2, 1) := by decide +kernel
theorem dX9_writeToken_63 : decode cX9_writeToken 63 = .ok (.invokevirtual 214, 3) := by decide +kernel
theorem dX9_writeToken_66 : decode cX9_writeToken 66 = .ok (.aload_n 0, 1) := by decide +kernel
theorem dX9_writeToken_67 : decode cX9_writeToken 67 = .ok (.getfield 58, 3) := by decide +kernel
theorem dX9_writeToken_70 : decode cX9_writeToken 70 = .ok (.aload_n 0, 1) := by decide +kernel
theorem dX9_writeToken_71 : decode cX9_writeToken 71 = .ok (.getfield 51, 3) := by decide +kernel
theorem dX9_writeToken_74 : decode cX9_writeToken 74 = .ok (.getfield 186, 3) := by decide +kernel
theorem dX9_writeToken_77 : decode cX9_writeToken 77 = .ok (.iload_n 1, 1) := by decide +kernel
theorem dX9_writeToken_78 : decode cX9_writeToken 78 = .ok (.iaload, 1) := by decide +kernel
theorem dX9_writeToken_79 : decode cX9_writeToken 79 = .ok (.invokevirtual 253, 3) := by decide +kernel
theorem dX9_writeToken_82 : decode cX9_writeToken 82 = .ok (.aload_n 0, 1) := by decide +kernel
theorem dX9_writeToken_83 : decode cX9_writeToken 83 = .ok (.getfield 58, 3) := by decide +kernel
theorem dX9_writeToken_86 : decode cX9_writeToken 86 = .ok (.aload_n 0, 1) := by decide +kernel
theorem dX9_writeToken_87 : decode cX9_writeToken 87 = .ok (.getfield 51, 3) := by decide +kernel
theorem dX9_writeToken_90 : decode cX9_writeToken 90 = .ok (.getfield 183, 3) := by decide +kernel
theorem dX9_writeToken_93 : decode cX9_writeToken 93 = .ok (.iload_n 1, 1) := by decide +kernel
theorem dX9_writeToken_94 : decode cX9_writeToken 94 = .ok (.iaload, 1) := by decide +kernel
theorem dX9_writeToken_95 : decode cX9_writeToken 95 = .ok (.iconst 1, 1) := by decide +kernel
theorem dX9_writeToken_96 : decode cX9_writeToken 96 = .ok (.isub, 1) := by decide +kernel
theorem dX9_writeToken_97 : decode cX9_writeToken 97 = .ok (.invokevirtual 253, 3) := by decide +kernel
theorem dX9_writeToken_100 : decode cX9_writeToken 100 = .ok (.goto 28, 3) := by decide +kernel
theorem dX9_writeToken_103 : decode cX9_writeToken 103 = .ok (.aload_n 0, 1) := by decide +kernel
theorem dX9_writeToken_104 : decode cX9_writeToken 104 = .ok (.getfield 58, 3) := by decide +kernel
theorem dX9_writeToken_107 : decode cX9_writeToken 107 = .ok (.iconst 3, 1) := by decide +kernel
theorem dX9_writeToken_108 : decode cX9_writeToken 108 = .ok (.iconst 2, 1) := by decide +kernel
theorem dX9_writeToken_109 : decode cX9_writeToken 109 = .ok (.invokevirtual 214, 3) := by decide +kernel
theorem dX9_writeToken_112 : decode cX9_writeToken 112 = .ok (.aload_n 0, 1) := by decide +kernel
theorem dX9_writeToken_113 : decode cX9_writeToken 113 = .ok (.getfield 58, 3) := by decide +kernel
theorem dX9_writeToken_116 : decode cX9_writeToken 116 = .ok (.aload_n 0, 1) := by decide +kernel
theorem dX9_writeToken_117 : decode cX9_writeToken 117 = .ok (.getfield 51, 3) := by decide +kernel
theorem dX9_writeToken_120 : decode cX9_writeToken 120 = .ok (.getfield 183, 3) := by decide +kernel
theorem dX9_writeToken_123 : decode cX9_writeToken 123 = .ok (.iload_n 1, 1) := by decide +kernel
theorem dX9_writeToken_124 : decode cX9_writeToken 124 = .ok (.iaload, 1) := by decide +kernel
theorem dX9_writeToken_125 : decode cX9_writeToken 125 = .ok (.invokevirtual 253, 3) := by decide +kernel
theorem dX9_writeToken_128 : decode cX9_writeToken 128 = .ok (.return_, 1) := by decide +kernel
theorem dX9_mix_0 : decode cX9_mix 0 = .ok (.lload_n 0, 1) := by decide +kernel
theorem dX9_mix_1 : decode cX9_mix 1 = .ok (.ldc2_w 256, 3) := by decide +kernel
theorem dX9_mix_4 : decode cX9_mix 4 = .ok (.lmul, 1) := by decide +kernel
theorem dX9_mix_5 : decode cX9_mix 5 = .ok (.iload_n 2, 1) := by decide +kernel
theorem dX9_mix_6 : decode cX9_mix 6 = .ok (.i2l, 1) := by decide +kernel
theorem dX9_mix_7 : decode cX9_mix 7 = .ok (.ladd, 1) := by decide +kernel
theorem dX9_mix_8 : decode cX9_mix 8 = .ok (.lreturn, 1) := by decide +kernel
set_option maxRecDepth 20000 in
theorem ggX9_mixRow_X9_mix : GoodIn wsX9_mixRow wsX9_mix := goodIn_r _ [4, 5] (by decide +kernel) (by decide +kernel)
set_option maxRecDepth 20000 in
theorem gX9_mixRow_X9_mix : GoodIn wsX9_mixRow (va_wsS RX9 243 yX9_mix wsX9_mix) := goodIn_app (goodIn_of _ (by decide +kernel)) ggX9_mixRow_X9_mix
theorem dX9_mixRow_0 : decode cX9_mixRow 0 = .ok (.lload_n 0, 1) := by decide +kernel
theorem dX9_mixRow_1 : decode cX9_mixRow 1 = .ok (.iload_n 3, 1) := by decide +kernel
theorem dX9_mixRow_2 : decode cX9_mixRow 2 = .ok (.invokestatic 243, 3) := by decide +kernel
theorem dX9_mixRow_5 : decode cX9_mixRow 5 = .ok (.lstore 4, 2) := by decide +kernel
theorem dX9_mixRow_7 : decode cX9_mixRow 7 = .ok (.iconst 0, 1) := by decide +kernel
theorem dX9_mixRow_8 : decode cX9_mixRow 8 = .ok (.istore 6, 2) := by decide +kernel
theorem dX9_mixRow_10 : decode cX9_mixRow 10 = .ok (.iload 6, 2) := by decide +kernel
theorem dX9_mixRow_12 : decode cX9_mixRow 12 = .ok (.iload_n 3, 1) := by decide +kernel
theorem dX9_mixRow_13 : decode cX9_mixRow 13 = .ok (.if_icmp .ge 20, 3) := by decide +kernel
theorem dX9_mixRow_16 : decode cX9_mixRow 16 = .ok (.lload 4, 2) := by decide +kernel
theorem dX9_mixRow_18 : decode cX9_mixRow 18 = .ok (.aload_n 2, 1) := by decide +kernel
theorem dX9_mixRow_19 : decode cX9_mixRow 19 = .ok (.iload 6, 2) := by decide +kernel
theorem dX9_mixRow_21 : decode cX9_mixRow 21 = .ok (.iaload, 1) := by decide +kernel
theorem dX9_mixRow_22 : decode cX9_mixRow 22 = .ok (.invokestatic 243, 3) := by decide +kernel
theorem dX9_mixRow_25 : decode cX9_mixRow 25 = .ok (.lstore 4, 2) := by decide +kernel
theorem dX9_mixRow_27 : decode cX9_mixRow 27 = .ok (.iinc 6 1, 3) := by decide +kernel
theorem dX9_mixRow_30 : decode cX9_mixRow 30 = .ok (.goto (-20), 3) := by decide +kernel
theorem dX9_mixRow_33 : decode cX9_mixRow 33 = .ok (.lload 4, 2) := by decide +kernel
theorem dX9_mixRow_35 : decode cX9_mixRow 35 = .ok (.lreturn, 1) := by decide +kernel
set_option maxRecDepth 20000 in
theorem ggX9_mixPlan_X9_mix : GoodIn wsX9_mixPlan wsX9_mix := goodIn_r _ [9, 10] (by decide +kernel) (by decide +kernel)
set_option maxRecDepth 20000 in
theorem gX9_mixPlan_X9_mix : GoodIn wsX9_mixPlan (va_wsS RX9 243 yX9_mix wsX9_mix) := goodIn_app (goodIn_of _ (by decide +kernel)) ggX9_mixPlan_X9_mix
theorem dX9_mixPlan_0 : decode cX9_mixPlan 0 = .ok (.lload_n 1, 1) := by decide +kernel
theorem dX9_mixPlan_1 : decode cX9_mixPlan 1 = .ok (.aload_n 0, 1) := by decide +kernel
theorem dX9_mixPlan_2 : decode cX9_mixPlan 2 = .ok (.getfield 51, 3) := by decide +kernel
theorem dX9_mixPlan_5 : decode cX9_mixPlan 5 = .ok (.getfield 176, 3) := by decide +kernel
theorem dX9_mixPlan_8 : decode cX9_mixPlan 8 = .ok (.invokestatic 243, 3) := by decide +kernel
theorem dX9_mixPlan_11 : decode cX9_mixPlan 11 = .ok (.lstore_n 3, 1) := by decide +kernel
theorem dX9_mixPlan_12 : decode cX9_mixPlan 12 = .ok (.iconst 0, 1) := by decide +kernel
theorem dX9_mixPlan_13 : decode cX9_mixPlan 13 = .ok (.istore 5, 2) := by decide +kernel
theorem dX9_mixPlan_15 : decode cX9_mixPlan 15 = .ok (.iload 5, 2) := by decide +kernel
theorem dX9_mixPlan_17 : decode cX9_mixPlan 17 = .ok (.aload_n 0, 1) := by decide +kernel
theorem dX9_mixPlan_18 : decode cX9_mixPlan 18 = .ok (.getfield 51, 3) := by decide +kernel
theorem dX9_mixPlan_21 : decode cX9_mixPlan 21 = .ok (.getfield 176, 3) := by decide +kernel
theorem dX9_mixPlan_24 : decode cX9_mixPlan 24 = .ok (.if_icmp .ge 54, 3) := by decide +kernel
theorem dX9_mixPlan_27 : decode cX9_mixPlan 27 = .ok (.lload_n 3, 1) := by decide +kernel
theorem dX9_mixPlan_28 : decode cX9_mixPlan 28 = .ok (.aload_n 0, 1) := by decide +kernel
theorem dX9_mixPlan_29 : decode cX9_mixPlan 29 = .ok (.getfield 51, 3) := by decide +kernel
theorem dX9_mixPlan_32 : decode cX9_mixPlan 32 = .ok (.getfield 180, 3) := by decide +kernel
theorem dX9_mixPlan_35 : decode cX9_mixPlan 35 = .ok (.iload 5, 2) := by decide +kernel
theorem dX9_mixPlan_37 : decode cX9_mixPlan 37 = .ok (.iaload, 1) := by decide +kernel
theorem dX9_mixPlan_38 : decode cX9_mixPlan 38 = .ok (.invokestatic 243, 3) := by decide +kernel
theorem dX9_mixPlan_41 : decode cX9_mixPlan 41 = .ok (.lstore_n 3, 1) := by decide +kernel
theorem dX9_mixPlan_42 : decode cX9_mixPlan 42 = .ok (.lload_n 3, 1) := by decide +kernel
theorem dX9_mixPlan_43 : decode cX9_mixPlan 43 = .ok (.aload_n 0, 1) := by decide +kernel
theorem dX9_mixPlan_44 : decode cX9_mixPlan 44 = .ok (.getfield 51, 3) := by decide +kernel
theorem dX9_mixPlan_47 : decode cX9_mixPlan 47 = .ok (.getfield 183, 3) := by decide +kernel
theorem dX9_mixPlan_50 : decode cX9_mixPlan 50 = .ok (.iload 5, 2) := by decide +kernel
theorem dX9_mixPlan_52 : decode cX9_mixPlan 52 = .ok (.iaload, 1) := by decide +kernel
theorem dX9_mixPlan_53 : decode cX9_mixPlan 53 = .ok (.invokestatic 243, 3) := by decide +kernel
theorem dX9_mixPlan_56 : decode cX9_mixPlan 56 = .ok (.lstore_n 3, 1) := by decide +kernel
theorem dX9_mixPlan_57 : decode cX9_mixPlan 57 = .ok (.lload_n 3, 1) := by decide +kernel
theorem dX9_mixPlan_58 : decode cX9_mixPlan 58 = .ok (.aload_n 0, 1) := by decide +kernel
theorem dX9_mixPlan_59 : decode cX9_mixPlan 59 = .ok (.getfield 51, 3) := by decide +kernel
theorem dX9_mixPlan_62 : decode cX9_mixPlan 62 = .ok (.getfield 186, 3) := by decide +kernel
theorem dX9_mixPlan_65 : decode cX9_mixPlan 65 = .ok (.iload 5, 2) := by decide +kernel
theorem dX9_mixPlan_67 : decode cX9_mixPlan 67 = .ok (.iaload, 1) := by decide +kernel
theorem dX9_mixPlan_68 : decode cX9_mixPlan 68 = .ok (.invokestatic 243, 3) := by decide +kernel
theorem dX9_mixPlan_71 : decode cX9_mixPlan 71 = .ok (.lstore_n 3, 1) := by decide +kernel
theorem dX9_mixPlan_72 : decode cX9_mixPlan 72 = .ok (.iinc 5 1, 3) := by decide +kernel
theorem dX9_mixPlan_75 : decode cX9_mixPlan 75 = .ok (.goto (-60), 3) := by decide +kernel
theorem dX9_mixPlan_78 : decode cX9_mixPlan 78 = .ok (.lload_n 3, 1) := by decide +kernel
theorem dX9_mixPlan_79 : decode cX9_mixPlan 79 = .ok (.lreturn, 1) := by decide +kernel
