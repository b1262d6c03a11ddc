theorem ll_mem {big : List Cond} (ws : List Cond) (ps : List Nat) (hp : ws = ps.filterMap (fun i => big[i]?)) : ∀ w ∈ ws, w ∈ big := by
  intro w hw
  rw [hp] at hw
  obtain ⟨i, -, hi⟩ := List.mem_filterMap.mp hw
  exact List.mem_of_getElem? hi
set_option maxRecDepth 20000 in
theorem ll_r1 : ∀ w ∈ wsL_law0_r1, w ∈ lw_tbl := ll_mem _ [63, 64, 45, 814, 815, 54, 1152, 1153, 1151, 65, 66, 67, 68, 69, 70, 71, 72, 46, 247, 90, 91, 47, 248, 120] (by decide +kernel)
set_option maxRecDepth 20000 in
theorem ll_r2 : ∀ w ∈ wsL_law0_r2, w ∈ lw_tbl := ll_mem _ [121, 48, 249, 133, 134, 49, 250, 146, 147, 50, 251, 174, 175, 51, 252, 205, 206, 52, 253, 222, 223, 53, 254, 74] (by decide +kernel)
set_option maxRecDepth 20000 in
theorem ll_r3 : ∀ w ∈ wsL_law0_r3, w ∈ lw_tbl := ll_mem _ [75, 76, 89, 77, 80, 93, 94, 95, 96, 100, 104, 108, 122, 123, 124, 125, 126, 127, 135, 136, 137, 138, 139, 140] (by decide +kernel)
set_option maxRecDepth 20000 in
theorem ll_r4 : ∀ w ∈ wsL_law0_r4, w ∈ lw_tbl := ll_mem _ [148, 149, 150, 151, 154, 155, 156, 157, 158, 152, 153, 177, 178, 179, 180, 182, 184, 186, 188, 190, 208, 209, 210, 211] (by decide +kernel)
set_option maxRecDepth 20000 in
theorem ll_r5 : ∀ w ∈ wsL_law0_r5, w ∈ lw_tbl := ll_mem _ [214, 225, 226, 227, 228, 230, 232, 234, 235, 816, 817, 818, 819, 822, 823, 824, 825, 829, 830, 831, 832, 834, 836, 837] (by decide +kernel)
set_option maxRecDepth 20000 in
theorem ll_r6 : ∀ w ∈ wsL_law0_r6, w ∈ lw_tbl := ll_mem _ [838, 839, 840, 841, 842, 843, 844, 474, 475, 44, 476, 477, 478, 479, 480, 481, 482, 483, 58, 551, 59, 83, 567, 568] (by decide +kernel)
set_option maxRecDepth 20000 in
theorem ll_r7 : ∀ w ∈ wsL_law0_r7, w ∈ lw_tbl := ll_mem _ [569, 570, 571, 572, 573, 574, 575, 906, 907, 908, 909, 820, 821, 917, 827, 910, 911, 912, 913, 915, 23, 916, 902, 903] (by decide +kernel)
set_option maxRecDepth 20000 in
theorem ll_r8 : ∀ w ∈ wsL_law0_r8, w ∈ lw_tbl := ll_mem _ [904, 905, 576, 577, 578, 579, 580, 581, 582, 583, 584, 585, 918, 919, 920, 921, 587, 588, 589, 590, 591, 592, 593, 922] (by decide +kernel)
set_option maxRecDepth 20000 in
theorem ll_r9 : ∀ w ∈ wsL_law0_r9, w ∈ lw_tbl := ll_mem _ [923, 924, 925, 595, 596, 597, 598, 599, 600, 601, 602, 607, 60, 79, 603, 604, 605, 606, 926, 927, 928, 929, 930, 932] (by decide +kernel)
set_option maxRecDepth 20000 in
theorem ll_r10 : ∀ w ∈ wsL_law0_r10, w ∈ lw_tbl := ll_mem _ [24, 933, 272, 273, 274, 275, 934, 935, 936, 937, 624, 625, 626, 627, 628, 629, 630, 938, 939, 940, 941, 631, 632, 633] (by decide +kernel)
set_option maxRecDepth 20000 in
theorem ll_r11 : ∀ w ∈ wsL_law0_r11, w ∈ lw_tbl := ll_mem _ [634, 635, 636, 637, 99, 942, 943, 944, 945, 639, 640, 641, 642, 643, 644, 645, 103, 107, 946, 947, 948, 949, 648, 649] (by decide +kernel)
set_option maxRecDepth 20000 in
theorem ll_r12 : ∀ w ∈ wsL_law0_r12, w ∈ lw_tbl := ll_mem _ [650, 651, 652, 653, 654, 109, 950, 951, 952, 953, 826, 656, 657, 658, 659, 660, 661, 662, 663, 375, 376, 377, 97, 373] (by decide +kernel)
set_option maxRecDepth 20000 in
theorem ll_r13 : ∀ w ∈ wsL_law0_r13, w ∈ lw_tbl := ll_mem _ [285, 61, 286, 379, 380, 381, 101, 378, 369, 370, 371, 105, 372, 342, 343, 344, 954, 955, 956, 957, 958, 960, 25, 961] (by decide +kernel)
set_option maxRecDepth 20000 in
theorem ll_r14 : ∀ w ∈ wsL_law0_r14, w ∈ lw_tbl := ll_mem _ [975, 962, 964, 26, 965, 966, 967, 969, 27, 970, 971, 973, 28, 974, 664, 665, 666, 667, 668, 669, 670, 671, 389, 390] (by decide +kernel)
set_option maxRecDepth 20000 in
theorem ll_r15 : ∀ w ∈ wsL_law0_r15, w ∈ lw_tbl := ll_mem _ [391, 976, 977, 978, 979, 980, 982, 29, 983, 672, 673, 674, 675, 676, 677, 678, 680, 984, 985, 986, 987, 681, 682, 683] (by decide +kernel)
set_option maxRecDepth 20000 in
theorem ll_r16 : ∀ w ∈ wsL_law0_r16, w ∈ lw_tbl := ll_mem _ [684, 685, 686, 687, 689, 304, 62, 305, 988, 989, 990, 991, 992, 993, 994, 276, 277, 278, 279, 280, 281, 282, 283, 81] (by decide +kernel)
set_option maxRecDepth 20000 in
theorem ll_r17 : ∀ w ∈ wsL_law0_r17, w ∈ lw_tbl := ll_mem _ [98, 284, 287, 289, 0, 290, 78, 291, 293, 1, 294, 295, 106, 102, 296, 298, 2, 299, 300, 301, 302, 303, 306, 308] (by decide +kernel)
set_option maxRecDepth 20000 in
theorem ll_r18 : ∀ w ∈ wsL_law0_r18, w ∈ lw_tbl := ll_mem _ [3, 309, 110, 310, 312, 4, 313, 314, 316, 5, 317, 318, 320, 6, 321, 322, 324, 7, 325, 326, 327, 328, 329, 330] (by decide +kernel)
set_option maxRecDepth 20000 in
theorem ll_r19 : ∀ w ∈ wsL_law0_r19, w ∈ lw_tbl := ll_mem _ [331, 332, 333, 334, 335, 336, 337, 338, 339, 340, 341, 345, 347, 8, 348, 189, 349, 350, 351, 352, 353, 355, 9, 356] (by decide +kernel)
set_option maxRecDepth 20000 in
theorem ll_r20 : ∀ w ∈ wsL_law0_r20, w ∈ lw_tbl := ll_mem _ [357, 358, 995, 996, 997, 998, 828, 999, 1001, 30, 1002, 1003, 1004, 1005, 1006, 1008, 31, 1009, 1010, 1012, 32, 1013, 1014, 1016] (by decide +kernel)
set_option maxRecDepth 20000 in
theorem ll_r21 : ∀ w ∈ wsL_law0_r21, w ∈ lw_tbl := ll_mem _ [33, 1017, 1018, 1020, 34, 1021, 359, 360, 361, 362, 363, 364, 365, 366, 82, 367, 368, 374, 382, 383, 385, 10, 386, 387] (by decide +kernel)
set_option maxRecDepth 20000 in
theorem ll_r22 : ∀ w ∈ wsL_law0_r22, w ∈ lw_tbl := ll_mem _ [388, 1022, 1023, 1024, 1025, 1026, 1028, 35, 1029, 1030, 1032, 36, 1033, 1034, 1036, 37, 1037, 392, 393, 394, 395, 1038, 1039, 1040] (by decide +kernel)
set_option maxRecDepth 20000 in
theorem ll_r23 : ∀ w ∈ wsL_law0_r23, w ∈ lw_tbl := ll_mem _ [1041, 396, 397, 398, 399, 191, 1042, 1043, 1044, 1045, 690, 691, 692, 693, 694, 695, 696, 1046, 1047, 1048, 1049, 698, 699, 700] (by decide +kernel)
set_option maxRecDepth 20000 in
theorem ll_r24 : ∀ w ∈ wsL_law0_r24, w ∈ lw_tbl := ll_mem _ [701, 702, 703, 704, 181, 705, 707, 21, 708, 1050, 1051, 1052, 1053, 1054, 1056, 38, 1057, 710, 711, 712, 713, 714, 715, 716] (by decide +kernel)
set_option maxRecDepth 20000 in
theorem ll_r25 : ∀ w ∈ wsL_law0_r25, w ∈ lw_tbl := ll_mem _ [183, 1058, 1059, 1060, 1061, 717, 718, 719, 720, 721, 722, 723, 185, 1062, 1063, 1064, 1065, 724, 725, 726, 727, 728, 729, 730] (by decide +kernel)
set_option maxRecDepth 20000 in
theorem ll_r26 : ∀ w ∈ wsL_law0_r26, w ∈ lw_tbl := ll_mem _ [187, 1066, 1067, 1068, 1069, 731, 732, 733, 734, 735, 736, 737, 739, 740, 741, 742, 1070, 1071, 1072, 1073, 743, 744, 745, 746] (by decide +kernel)
set_option maxRecDepth 20000 in
theorem ll_r27 : ∀ w ∈ wsL_law0_r27, w ∈ lw_tbl := ll_mem _ [747, 748, 749, 1074, 1075, 1076, 1077, 750, 751, 752, 753, 754, 755, 756, 216, 757, 759, 22, 760, 761, 762, 763, 764, 765] (by decide +kernel)
set_option maxRecDepth 20000 in
theorem ll_r28 : ∀ w ∈ wsL_law0_r28, w ∈ lw_tbl := ll_mem _ [766, 767, 768, 769, 770, 1078, 1079, 1080, 1081, 833, 1082, 1084, 39, 1085, 1086, 1088, 40, 1089, 400, 401, 402, 403, 1090, 1091] (by decide +kernel)
set_option maxRecDepth 20000 in
theorem ll_r29 : ∀ w ∈ wsL_law0_r29, w ∈ lw_tbl := ll_mem _ [1092, 1093, 771, 772, 773, 774, 775, 776, 777, 213, 778, 779, 780, 781, 1094, 1095, 1096, 1097, 783, 784, 785, 786, 787, 788] (by decide +kernel)
set_option maxRecDepth 20000 in
theorem ll_r30 : ∀ w ∈ wsL_law0_r30, w ∈ lw_tbl := ll_mem _ [789, 1098, 1099, 1100, 1101, 790, 791, 792, 793, 794, 795, 796, 1102, 1103, 1104, 1105, 799, 800, 801, 802, 803, 804, 805, 1106] (by decide +kernel)
set_option maxRecDepth 20000 in
theorem ll_r31 : ∀ w ∈ wsL_law0_r31, w ∈ lw_tbl := ll_mem _ [1107, 1108, 1109, 404, 405, 406, 407, 408, 409, 410, 411, 215, 412, 414, 11, 415, 416, 418, 12, 419, 212, 420, 422, 13] (by decide +kernel)
set_option maxRecDepth 20000 in
theorem ll_r32 : ∀ w ∈ wsL_law0_r32, w ∈ lw_tbl := ll_mem _ [423, 424, 426, 14, 427, 428, 430, 15, 431, 432, 434, 16, 435, 436, 438, 17, 439, 440, 442, 18, 443, 1110, 1111, 1112] (by decide +kernel)
set_option maxRecDepth 20000 in
theorem ll_r33 : ∀ w ∈ wsL_law0_r33, w ∈ lw_tbl := ll_mem _ [1113, 835, 845, 846, 1114, 1116, 41, 1117, 1118, 1120, 42, 1121, 1122, 1124, 43, 1125, 444, 445, 446, 447, 233, 1126, 1127, 1128] (by decide +kernel)
set_option maxRecDepth 20000 in
theorem ll_r34 : ∀ w ∈ wsL_law0_r34, w ∈ lw_tbl := ll_mem _ [1129, 448, 449, 450, 451, 231, 1130, 1131, 1132, 1133, 807, 808, 809, 810, 811, 812, 813, 229, 1134, 1135, 1136, 1137, 452, 453] (by decide +kernel)
set_option maxRecDepth 20000 in
theorem ll_r35 : ∀ w ∈ wsL_law0_r35, w ∈ lw_tbl := ll_mem _ [454, 455, 456, 457, 1138, 1139, 1140, 1141, 1142, 1143, 1144, 458, 459, 460, 461, 462, 463, 464, 465, 466, 467, 468, 469, 470] (by decide +kernel)
set_option maxRecDepth 20000 in
theorem ll_r36 : ∀ w ∈ wsL_law0_r36, w ∈ lw_tbl := ll_mem _ [472, 19, 473, 1145, 1146, 1147, 1148, 1149, 1150] (by decide +kernel)
theorem inX9 : ∀ w ∈ wsX90, w ∈ lw_tbl := by decide +kernel
theorem inX10 : ∀ w ∈ wsX100, w ∈ lw_tbl := by decide +kernel
theorem inX8 : ∀ w ∈ wsX80, w ∈ lw_tbl := by decide +kernel
theorem inX7 : ∀ w ∈ wsX70, w ∈ lw_tbl := by decide +kernel
theorem inX3 : ∀ w ∈ wsX30, w ∈ lw_tbl := by decide +kernel
theorem inX5 : ∀ w ∈ wsX50, w ∈ lw_tbl := by decide +kernel
theorem inX0 : ∀ w ∈ wsX00, w ∈ lw_tbl := by decide +kernel
theorem inX4 : ∀ w ∈ wsX40, w ∈ lw_tbl := by decide +kernel
theorem inX1 : ∀ w ∈ wsX10, w ∈ lw_tbl := by decide +kernel
theorem inX6 : ∀ w ∈ wsX60, w ∈ lw_tbl := by decide +kernel
theorem ll_rr : ∀ w ∈ wsL_law0_r1 ++ (wsL_law0_r2 ++ (wsL_law0_r3 ++ (wsL_law0_r4 ++ (wsL_law0_r5 ++ (wsL_law0_r6 ++ (wsL_law0_r7 ++ (wsL_law0_r8 ++ (wsL_law0_r9 ++ (wsL_law0_r10 ++ (wsL_law0_r11 ++ (wsL_law0_r12 ++ (wsL_law0_r13 ++ (wsL_law0_r14 ++ (wsL_law0_r15 ++ (wsL_law0_r16 ++ (wsL_law0_r17 ++ (wsL_law0_r18 ++ (wsL_law0_r19 ++ (wsL_law0_r20 ++ (wsL_law0_r21 ++ (wsL_law0_r22 ++ (wsL_law0_r23 ++ (wsL_law0_r24 ++ (wsL_law0_r25 ++ (wsL_law0_r26 ++ (wsL_law0_r27 ++ (wsL_law0_r28 ++ (wsL_law0_r29 ++ (wsL_law0_r30 ++ (wsL_law0_r31 ++ (wsL_law0_r32 ++ (wsL_law0_r33 ++ (wsL_law0_r34 ++ (wsL_law0_r35 ++ (wsL_law0_r36))))))))))))))))))))))))))))))))))), w ∈ lw_tbl := fun w h => (List.mem_append.mp h).elim (fun h => ll_r1 w h) (fun h => (List.mem_append.mp h).elim (fun h => ll_r2 w h) (fun h => (List.mem_append.mp h).elim (fun h => ll_r3 w h) (fun h => (List.mem_append.mp h).elim (fun h => ll_r4 w h) (fun h => (List.mem_append.mp h).elim (fun h => ll_r5 w h) (fun h => (List.mem_append.mp h).elim (fun h => ll_r6 w h) (fun h => (List.mem_append.mp h).elim (fun h => ll_r7 w h) (fun h => (List.mem_append.mp h).elim (fun h => ll_r8 w h) (fun h => (List.mem_append.mp h).elim (fun h => ll_r9 w h) (fun h => (List.mem_append.mp h).elim (fun h => ll_r10 w h) (fun h => (List.mem_append.mp h).elim (fun h => ll_r11 w h) (fun h => (List.mem_append.mp h).elim (fun h => ll_r12 w h) (fun h => (List.mem_append.mp h).elim (fun h => ll_r13 w h) (fun h => (List.mem_append.mp h).elim (fun h => ll_r14 w h) (fun h => (List.mem_append.mp h).elim (fun h => ll_r15 w h) (fun h => (List.mem_append.mp h).elim (fun h => ll_r16 w h) (fun h => (List.mem_append.mp h).elim (fun h => ll_r17 w h) (fun h => (List.mem_append.mp h).elim (fun h => ll_r18 w h) (fun h => (List.mem_append.mp h).elim (fun h => ll_r19 w h) (fun h => (List.mem_append.mp h).elim (fun h => ll_r20 w h) (fun h => (List.mem_append.mp h).elim (fun h => ll_r21 w h) (fun h => (List.mem_append.mp h).elim (fun h => ll_r22 w h) (fun h => (List.mem_append.mp h).elim (fun h => ll_r23 w h) (fun h => (List.mem_append.mp h).elim (fun h => ll_r24 w h) (fun h => (List.mem_append.mp h).elim (fun h => ll_r25 w h) (fun h => (List.mem_append.mp h).elim (fun h => ll_r26 w h) (fun h => (List.mem_append.mp h).elim (fun h => ll_r27 w h) (fun h => (List.mem_append.mp h).elim (fun h => ll_r28 w h) (fun h => (List.mem_append.mp h).elim (fun h => ll_r29 w h) (fun h => (List.mem_append.mp h).elim (fun h => ll_r30 w h) (fun h => (List.mem_append.mp h).elim (fun h => ll_r31 w h) (fun h => (List.mem_append.mp h).elim (fun h => ll_r32 w h) (fun h => (List.mem_append.mp h).elim (fun h => ll_r33 w h) (fun h => (List.mem_append.mp h).elim (fun h => ll_r34 w h) (fun h => (List.mem_append.mp h).elim (fun h => ll_r35 w h) (fun h => ll_r36 w h)))))))))))))))))))))))))))))))))))
theorem wsL_law_in0 : ∀ w ∈ wsL_law0, w ∈ lw_tbl := fun w h => (List.mem_append.mp h).elim (fun h => (List.mem_append.mp h).elim (fun h => (List.mem_append.mp h).elim (fun h => (List.mem_append.mp h).elim (fun h => (List.mem_append.mp h).elim (fun h => (List.mem_append.mp h).elim (fun h => (List.mem_append.mp h).elim (fun h => (List.mem_append.mp h).elim (fun h => (List.mem_append.mp h).elim (fun h => (List.mem_append.mp h).elim (fun h => (List.mem_append.mp h).elim (fun h => ll_rr w h) (fun h => inX9 w h)) (fun h => inX10 w h)) (fun h => inX8 w h)) (fun h => inX7 w h)) (fun h => inX3 w h)) (fun h => inX5 w h)) (fun h => inX0 w h)) (fun h => inX4 w h)) (fun h => inX1 w h)) (fun h => inX6 w h)) (fun h => nomatch h)
theorem wsL_law_x0 : ∀ w ∈ (vx_atS RX9 73 "java/lang/IllegalArgumentException" ["java/lang/RuntimeException", "java/lang/Exception"]).filter goodWord, w ∈ lw_tbl := by decide +kernel
theorem wsL_law_x1 : ∀ w ∈ (vx_atS RX9 84 "java/lang/IllegalStateException" ["java/lang/RuntimeException", "java/lang/Exception"]).filter goodWord, w ∈ lw_tbl := by decide +kernel
theorem wsL_law_x2 : ∀ w ∈ (vx_atS RX9 109 "java/lang/IndexOutOfBoundsException" ["java/lang/RuntimeException", "java/lang/Exception"]).filter goodWord, w ∈ lw_tbl := by decide +kernel
theorem wsL_law_in : ∀ w ∈ wsL_law, w ∈ lw_tbl := fun w h => (List.mem_append.mp h).elim (fun h => (List.mem_append.mp h).elim (fun h => (List.mem_append.mp h).elim (fun h => wsL_law_in0 w h) (fun h => wsL_law_x0 w h)) (fun h => wsL_law_x1 w h)) (fun h => wsL_law_x2 w h)
theorem inlX0 : ∀ w ∈ wsX00, w ∈ wsL_law := fun _ h => List.mem_append_left _ (List.mem_append_left _ (List.mem_append_left _ (List.mem_append_left _ (List.mem_append_left _ (List.mem_append_left _ (List.mem_append_left _ (List.mem_append_right _ h)))))))
theorem inlX1 : ∀ w ∈ wsX10, w ∈ wsL_law := fun _ h => List.mem_append_left _ (List.mem_append_left _ (List.mem_append_left _ (List.mem_append_left _ (List.mem_append_left _ (List.mem_append_right _ h)))))
theorem inX2 : ∀ w ∈ wsX20, w ∈ lw_tbl := by decide +kernel
theorem inlX3 : ∀ w ∈ wsX30, w ∈ wsL_law := fun _ h => List.mem_append_left _ (List.mem_append_left _ (List.mem_append_left _ (List.mem_append_left _ (List.mem_append_left _ (List.mem_append_left _ (List.mem_append_left _ (List.mem_append_left _ (List.mem_append_left _ (List.mem_append_right _ h)))))))))
theorem inlX4 : ∀ w ∈ wsX40, w ∈ wsL_law := fun _ h => List.mem_append_left _ (List.mem_append_left _ (List.mem_append_left _ (List.mem_append_left _ (List.mem_append_left _ (List.mem_append_left _ (List.mem_append_right _ h))))))
theorem inlX5 : ∀ w ∈ wsX50, w ∈ wsL_law := fun _ h => List.mem_append_left _ (List.mem_append_left _ (List.mem_append_left _ (List.mem_append_left _ (List.mem_append_left _ (List.mem_append_left _ (List.mem_append_left _ (List.mem_append_left _ (List.mem_append_right _ h))))))))
theorem inlX6 : ∀ w ∈ wsX60, w ∈ wsL_law := fun _ h => List.mem_append_left _ (List.mem_append_left _ (List.mem_append_left _ (List.mem_append_left _ (List.mem_append_right _ h))))
theorem inlX7 : ∀ w ∈ wsX70, w ∈ wsL_law := fun _ h => List.mem_append_left _ (List.mem_append_left _ (List.mem_append_left _ (List.mem_append_left _ (List.mem_append_left _ (List.mem_append_left _ (List.mem_append_left _ (List.mem_append_left _ (List.mem_append_left _ (List.mem_append_left _ (List.mem_append_right _ h))))))))))
theorem inlX8 : ∀ w ∈ wsX80, w ∈ wsL_law := fun _ h => List.mem_append_left _ (List.mem_append_left _ (List.mem_append_left _ (List.mem_append_left _ (List.mem_append_left _ (List.mem_append_left _ (List.mem_append_left _ (List.mem_append_left _ (List.mem_append_left _ (List.mem_append_left _ (List.mem_append_left _ (List.mem_append_right _ h)))))))))))
theorem inlX9 : ∀ w ∈ wsX90, w ∈ wsL_law := fun _ h => List.mem_append_left _ (List.mem_append_left _ (List.mem_append_left _ (List.mem_append_left _ (List.mem_append_left _ (List.mem_append_left _ (List.mem_append_left _ (List.mem_append_left _ (List.mem_append_left _ (List.mem_append_left _ (List.mem_append_left _ (List.mem_append_left _ (List.mem_append_left _ (List.mem_append_right _ h)))))))))))))
theorem inlX10 : ∀ w ∈ wsX100, w ∈ wsL_law := fun _ h => List.mem_append_left _ (List.mem_append_left _ (List.mem_append_left _ (List.mem_append_left _ (List.mem_append_left _ (List.mem_append_left _ (List.mem_append_left _ (List.mem_append_left _ (List.mem_append_left _ (List.mem_append_left _ (List.mem_append_left _ (List.mem_append_left _ (List.mem_append_right _ h))))))))))))
theorem inJ9 : ∀ w ∈ wsJ90, w ∈ lw_tbl := by decide +kernel
theorem inJ0 : ∀ w ∈ wsJ00, w ∈ lw_tbl := by decide +kernel
