set_option maxRecDepth 20000 in
theorem ggL_law_X9_init : GoodIn wsL_law wsX9_init := goodIn_r _ [11, 12, 13, 14, 15, 16, 17, 18, 19, 20, 21, 22, 23, 24, 25, 26, 27, 28, 29, 30, 31, 32, 33, 34, 35, 36, 37, 38, 39, 40, 41, 42, 43, 44, 45, 46, 47, 48, 49, 50, 51, 52, 53, 54, 55, 56, 57, 58, 59, 60, 61, 62, 63, 64, 65, 66, 67, 68, 69, 70, 71, 72, 73, 74, 75, 76, 77, 78, 79, 80, 81, 82, 83, 84, 85, 86, 87, 88, 89, 90, 91, 92, 93, 94, 95, 96, 97, 98, 99, 100, 101, 102, 103, 104, 884, 885, 849, 850, 851, 852, 853, 854, 855, 856, 886, 887, 888, 889, 890, 891, 892, 893, 894, 895, 896, 897, 898, 899, 900, 901, 902, 903, 904, 905, 906, 907, 908, 909, 910, 911, 912, 913] (by decide +kernel) (by decide +kernel)
set_option maxRecDepth 20000 in
theorem gL_law_X9_init : GoodIn wsL_law (wsX9_init) := ggL_law_X9_init
set_option maxRecDepth 20000 in
theorem ggL_law_X10_init : GoodIn wsL_law wsX10_init := goodIn_r _ [107, 108, 13, 14, 50, 109, 110, 111, 112, 113, 114, 115, 116, 117, 118, 119, 120, 121, 122, 123, 124, 125, 126, 857, 858, 859, 860, 861, 862, 863, 864, 865, 866, 867, 868, 869, 870, 871, 872, 873, 874, 875, 876, 877, 878, 879, 880, 881, 882, 883] (by decide +kernel) (by decide +kernel)
set_option maxRecDepth 20000 in
theorem gL_law_X10_init : GoodIn wsL_law (wsX10_init) := ggL_law_X10_init
set_option maxRecDepth 20000 in
theorem ggL_law_L_feed : GoodIn wsL_law wsL_feed := goodIn_ca (goodIn_ca (goodIn_r _ [130, 131, 132, 133, 134, 135, 2, 136, 137, 138, 139, 140, 18, 141, 142, 38, 143, 144, 145, 17, 146, 52, 51, 147, 148, 149, 37, 150, 91, 90, 849, 850, 851, 852, 853, 854, 855, 856, 884, 885, 901, 902, 903, 904, 905, 906] (by decide +kernel) (by decide +kernel)) (goodIn_sub (fun _ h => List.mem_append_left _ (List.mem_append_left _ (List.mem_append_right _ h))) (by decide +kernel))) (goodIn_sub (fun _ h => List.mem_append_left _ (List.mem_append_right _ h)) (by decide +kernel))
set_option maxRecDepth 20000 in
theorem gL_law_L_feed : GoodIn wsL_law (va_wsS RL 102 yL_feed wsL_feed) := goodIn_app (goodIn_of _ (by decide +kernel)) ggL_law_L_feed
set_option maxRecDepth 20000 in
theorem ggL_law_X10_feed : GoodIn wsL_law wsX10_feed := goodIn_r _ [154, 155, 156, 109, 157, 158, 159, 160, 5, 161, 162, 163, 164, 165, 857, 858, 859, 860, 861, 862, 863, 864, 865, 866, 867, 868, 869, 870, 871, 872, 873, 874, 875, 876, 877, 878, 879, 880, 881, 882, 883] (by decide +kernel) (by decide +kernel)
set_option maxRecDepth 20000 in
theorem gL_law_X10_feed : GoodIn wsL_law (wsV RL 107 RX10 yX10_feed wsX10_feed) := goodIn_app (goodIn_of _ (by decide +kernel)) ggL_law_X10_feed
set_option maxRecDepth 20000 in
theorem ggL_law_X10_thrown : GoodIn wsL_law wsX10_thrown := goodIn_r _ [169, 155, 857, 858, 859, 860, 861, 862, 863, 864, 865, 866, 867, 868, 869, 870, 871, 872, 873, 874, 875, 876, 877, 878, 879, 880, 881, 882, 883] (by decide +kernel) (by decide +kernel)
set_option maxRecDepth 20000 in
theorem gL_law_X10_thrown : GoodIn wsL_law (wsV RL 108 RX10 yX10_thrown wsX10_thrown) := goodIn_app (goodIn_of _ (by decide +kernel)) ggL_law_X10_thrown
set_option maxRecDepth 20000 in
theorem ggL_law_L_fill : GoodIn wsL_law wsL_fill := goodIn_ca (goodIn_ca (goodIn_r _ [172, 131, 132, 173, 174, 175, 2, 176, 137, 138, 139, 140, 18, 141, 38, 177, 178, 179, 143, 144, 145, 17, 146, 52, 51, 147, 148, 149, 37, 150, 91, 90, 849, 850, 851, 852, 853, 854, 855, 856, 884, 885, 901, 902, 903, 904, 905, 906] (by decide +kernel) (by decide +kernel)) (goodIn_sub (fun _ h => List.mem_append_left _ (List.mem_append_left _ (List.mem_append_right _ h))) (by decide +kernel))) (goodIn_sub (fun _ h => List.mem_append_left _ (List.mem_append_right _ h)) (by decide +kernel))
set_option maxRecDepth 20000 in
theorem gL_law_L_fill : GoodIn wsL_law (va_wsS RL 111 yL_fill wsL_fill) := goodIn_app (goodIn_of _ (by decide +kernel)) ggL_law_L_fill
set_option maxRecDepth 20000 in
theorem ggL_law_X10_fill : GoodIn wsL_law wsX10_fill := goodIn_r _ [183, 155, 156, 109, 158, 159, 160, 5, 161, 162, 163, 164, 165, 857, 858, 859, 860, 861, 862, 863, 864, 865, 866, 867, 868, 869, 870, 871, 872, 873, 874, 875, 876, 877, 878, 879, 880, 881, 882, 883] (by decide +kernel) (by decide +kernel)
set_option maxRecDepth 20000 in
theorem gL_law_X10_fill : GoodIn wsL_law (wsV RL 114 RX10 yX10_fill wsX10_fill) := goodIn_app (goodIn_of _ (by decide +kernel)) ggL_law_X10_fill
set_option maxRecDepth 20000 in
theorem ggL_law_L_cut : GoodIn wsL_law wsL_cut := goodIn_ca (goodIn_r _ [186, 131, 187, 188, 189, 2, 190, 137, 138, 18, 141, 38, 147, 148, 149, 37, 150, 91, 90, 849, 850, 851, 852, 853, 854, 855, 856, 884, 885, 901, 902, 903, 904, 905, 906] (by decide +kernel) (by decide +kernel)) (goodIn_sub (fun _ h => List.mem_append_left _ (List.mem_append_left _ (List.mem_append_right _ h))) (by decide +kernel))
set_option maxRecDepth 20000 in
theorem gL_law_L_cut : GoodIn wsL_law (va_wsS RL 115 yL_cut wsL_cut) := goodIn_app (goodIn_of _ (by decide +kernel)) ggL_law_L_cut
set_option maxRecDepth 20000 in
theorem ggL_law_X10_cut : GoodIn wsL_law wsX10_cut := goodIn_r _ [194, 155, 156, 158, 159, 160, 5, 161, 162, 163, 164, 165, 857, 858, 859, 860, 861, 862, 863, 864, 865, 866, 867, 868, 869, 870, 871, 872, 873, 874, 875, 876, 877, 878, 879, 880, 881, 882, 883] (by decide +kernel) (by decide +kernel)
set_option maxRecDepth 20000 in
theorem gL_law_X10_cut : GoodIn wsL_law (wsV RL 118 RX10 yX10_cut wsX10_cut) := goodIn_app (goodIn_of _ (by decide +kernel)) ggL_law_X10_cut
set_option maxRecDepth 20000 in
theorem ggL_law_L_set : GoodIn wsL_law wsL_set := goodIn_ca (goodIn_ca (goodIn_r _ [197, 198, 131, 199, 200, 201, 2, 202, 203, 204, 137, 138, 18, 205, 38, 206, 207, 208, 17, 209, 52, 177, 178, 179, 147, 148, 149, 37, 150, 91, 90, 849, 850, 851, 852, 853, 854, 855, 856, 884, 885, 901, 902, 903, 904, 905, 906] (by decide +kernel) (by decide +kernel)) (goodIn_sub (fun _ h => List.mem_append_right _ h) (by decide +kernel))) (goodIn_sub (fun _ h => List.mem_append_left _ (List.mem_append_left _ (List.mem_append_right _ h))) (by decide +kernel))
set_option maxRecDepth 20000 in
theorem gL_law_L_set : GoodIn wsL_law (va_wsS RL 119 yL_set wsL_set) := goodIn_app (goodIn_of _ (by decide +kernel)) ggL_law_L_set
set_option maxRecDepth 20000 in
theorem ggL_law_X10_set : GoodIn wsL_law wsX10_set := goodIn_r _ [213, 155, 109, 158, 214, 215, 216, 5, 217, 156, 159, 160, 161, 162, 163, 164, 165, 857, 858, 859, 860, 861, 862, 863, 864, 865, 866, 867, 868, 869, 870, 871, 872, 873, 874, 875, 876, 877, 878, 879, 880, 881, 882, 883] (by decide +kernel) (by decide +kernel)
set_option maxRecDepth 20000 in
theorem gL_law_X10_set : GoodIn wsL_law (wsV RL 121 RX10 yX10_set wsX10_set) := goodIn_app (goodIn_of _ (by decide +kernel)) ggL_law_X10_set
set_option maxRecDepth 20000 in
theorem ggL_law_X9_size : GoodIn wsL_law wsX9_size := goodIn_r _ [221, 18, 141, 849, 850, 851, 852, 853, 854, 855, 856, 884, 885] (by decide +kernel) (by decide +kernel)
set_option maxRecDepth 20000 in
theorem gL_law_X9_size : GoodIn wsL_law (wsV RL 122 RX9 yX9_size wsX9_size) := goodIn_app (goodIn_of _ (by decide +kernel)) ggL_law_X9_size
set_option maxRecDepth 20000 in
theorem ggL_law_X10_size : GoodIn wsL_law wsX10_size := goodIn_r _ [225, 155, 156, 857, 858, 859, 860, 861, 862, 863, 864, 865, 866, 867, 868, 869, 870, 871, 872, 873, 874, 875, 876, 877, 878, 879, 880, 881, 882, 883] (by decide +kernel) (by decide +kernel)
set_option maxRecDepth 20000 in
theorem gL_law_X10_size : GoodIn wsL_law (wsV RL 125 RX10 yX10_size wsX10_size) := goodIn_app (goodIn_of _ (by decide +kernel)) ggL_law_X10_size
set_option maxRecDepth 20000 in
theorem ggL_law_L_byteAt : GoodIn wsL_law wsL_byteAt := goodIn_ca (goodIn_r _ [228, 198, 229, 230, 231, 2, 232, 203, 204, 18, 205, 206, 207, 208, 17, 209, 52, 849, 850, 851, 852, 853, 854, 855, 856, 884, 885] (by decide +kernel) (by decide +kernel)) (goodIn_sub (fun _ h => List.mem_append_right _ h) (by decide +kernel))
set_option maxRecDepth 20000 in
theorem gL_law_L_byteAt : GoodIn wsL_law (va_wsS RL 126 yL_byteAt wsL_byteAt) := goodIn_app (goodIn_of _ (by decide +kernel)) ggL_law_L_byteAt
set_option maxRecDepth 20000 in
theorem ggL_law_X10_byteAt : GoodIn wsL_law wsX10_byteAt := goodIn_r _ [236, 155, 109, 214, 215, 216, 5, 217, 156, 159, 160, 161, 162, 163, 164, 165, 857, 858, 859, 860, 861, 862, 863, 864, 865, 866, 867, 868, 869, 870, 871, 872, 873, 874, 875, 876, 877, 878, 879, 880, 881, 882, 883] (by decide +kernel) (by decide +kernel)
set_option maxRecDepth 20000 in
theorem gL_law_X10_byteAt : GoodIn wsL_law (wsV RL 128 RX10 yX10_byteAt wsX10_byteAt) := goodIn_app (goodIn_of _ (by decide +kernel)) ggL_law_X10_byteAt
set_option maxRecDepth 20000 in
theorem ggL_law_L_setWindow : GoodIn wsL_law wsL_setWindow := goodIn_ca (goodIn_r _ [239, 131, 240, 241, 242, 2, 243, 137, 138, 22, 244, 38, 147, 148, 149, 37, 150, 91, 90, 849, 850, 851, 852, 853, 854, 855, 856, 886, 887, 888, 889, 901, 902, 903, 904, 905, 906] (by decide +kernel) (by decide +kernel)) (goodIn_sub (fun _ h => List.mem_append_left _ (List.mem_append_left _ (List.mem_append_right _ h))) (by decide +kernel))
set_option maxRecDepth 20000 in
theorem gL_law_L_setWindow : GoodIn wsL_law (va_wsS RL 129 yL_setWindow wsL_setWindow) := goodIn_app (goodIn_of _ (by decide +kernel)) ggL_law_L_setWindow
set_option maxRecDepth 20000 in
theorem ggL_law_X10_setWindow : GoodIn wsL_law wsX10_setWindow := goodIn_r _ [248, 155, 110, 158, 159, 160, 5, 161, 162, 163, 164, 165, 857, 858, 859, 860, 861, 862, 863, 864, 865, 866, 867, 868, 869, 870, 871, 872, 873, 874, 875, 876, 877, 878, 879, 880, 881, 882, 883] (by decide +kernel) (by decide +kernel)
set_option maxRecDepth 20000 in
theorem gL_law_X10_setWindow : GoodIn wsL_law (wsV RL 131 RX10 yX10_setWindow wsX10_setWindow) := goodIn_app (goodIn_of _ (by decide +kernel)) ggL_law_X10_setWindow
set_option maxRecDepth 20000 in
theorem ggL_law_L_setLengths : GoodIn wsL_law wsL_setLengths := goodIn_ca (goodIn_r _ [251, 131, 252, 253, 254, 2, 255, 137, 138, 22, 256, 257, 38, 147, 148, 149, 37, 150, 91, 90, 849, 850, 851, 852, 853, 854, 855, 856, 886, 887, 888, 889, 901, 902, 903, 904, 905, 906] (by decide +kernel) (by decide +kernel)) (goodIn_sub (fun _ h => List.mem_append_left _ (List.mem_append_left _ (List.mem_append_right _ h))) (by decide +kernel))
set_option maxRecDepth 20000 in
theorem gL_law_L_setLengths : GoodIn wsL_law (va_wsS RL 132 yL_setLengths wsL_setLengths) := goodIn_app (goodIn_of _ (by decide +kernel)) ggL_law_L_setLengths
set_option maxRecDepth 20000 in
theorem ggL_law_X10_setLengths : GoodIn wsL_law wsX10_setLengths := goodIn_r _ [261, 155, 111, 112, 158, 159, 160, 5, 161, 857, 858, 859, 860, 861, 862, 863, 864, 865, 866, 867, 868, 869, 870, 871, 872, 873, 874, 875, 876, 877, 878, 879, 880, 881, 882, 883] (by decide +kernel) (by decide +kernel)
set_option maxRecDepth 20000 in
theorem gL_law_X10_setLengths : GoodIn wsL_law (wsV RL 134 RX10 yX10_setLengths wsX10_setLengths) := goodIn_app (goodIn_of _ (by decide +kernel)) ggL_law_X10_setLengths
set_option maxRecDepth 20000 in
theorem ggL_law_L_setPrice : GoodIn wsL_law wsL_setPrice := goodIn_ca (goodIn_r _ [264, 131, 265, 266, 267, 2, 268, 137, 138, 22, 269, 38, 147, 148, 149, 37, 150, 91, 90, 849, 850, 851, 852, 853, 854, 855, 856, 886, 887, 888, 889, 901, 902, 903, 904, 905, 906] (by decide +kernel) (by decide +kernel)) (goodIn_sub (fun _ h => List.mem_append_left _ (List.mem_append_left _ (List.mem_append_right _ h))) (by decide +kernel))
set_option maxRecDepth 20000 in
theorem gL_law_L_setPrice : GoodIn wsL_law (va_wsS RL 135 yL_setPrice wsL_setPrice) := goodIn_app (goodIn_of _ (by decide +kernel)) ggL_law_L_setPrice
set_option maxRecDepth 20000 in
theorem ggL_law_X10_setPrice : GoodIn wsL_law wsX10_setPrice := goodIn_r _ [273, 155, 274, 158, 159, 160, 5, 161, 162, 163, 164, 165, 857, 858, 859, 860, 861, 862, 863, 864, 865, 866, 867, 868, 869, 870, 871, 872, 873, 874, 875, 876, 877, 878, 879, 880, 881, 882, 883] (by decide +kernel) (by decide +kernel)
set_option maxRecDepth 20000 in
theorem gL_law_X10_setPrice : GoodIn wsL_law (wsV RL 137 RX10 yX10_setPrice wsX10_setPrice) := goodIn_app (goodIn_of _ (by decide +kernel)) ggL_law_X10_setPrice
set_option maxRecDepth 20000 in
theorem ggL_law_L_longest : GoodIn wsL_law wsL_longest := goodIn_ca (goodIn_r _ [277, 198, 278, 279, 280, 2, 281, 203, 204, 18, 26, 206, 207, 208, 17, 209, 52, 282, 283, 284, 25, 285, 65, 286, 287, 288, 289, 290, 291, 292, 293, 294, 295, 296, 297, 298, 64, 299, 300, 301, 302, 303, 51, 849, 850, 851, 852, 853, 854, 855, 856, 884, 885, 890, 891, 886, 887, 888, 889] (by decide +kernel) (by decide +kernel)) (goodIn_sub (fun _ h => List.mem_append_right _ h) (by decide +kernel))
set_option maxRecDepth 20000 in
theorem gL_law_L_longest : GoodIn wsL_law (va_wsS RL 138 yL_longest wsL_longest) := goodIn_app (goodIn_of _ (by decide +kernel)) ggL_law_L_longest
set_option maxRecDepth 20000 in
theorem ggL_law_X10_longest : GoodIn wsL_law wsX10_longest := goodIn_r _ [307, 155, 214, 215, 216, 5, 217, 156, 159, 160, 161, 308, 309, 310, 311, 312, 292, 289, 293, 313, 314, 315, 316, 110, 317, 288, 290, 318, 319, 320, 321, 112, 111, 322, 323, 324, 325, 109, 162, 163, 164, 165, 857, 858, 859, 860, 861, 862, 863, 864, 865, 866, 867, 868, 869, 870, 871, 872, 873, 874, 875, 876, 877, 878, 879, 880, 881, 882, 883] (by decide +kernel) (by decide +kernel)
set_option maxRecDepth 20000 in
theorem gL_law_X10_longest : GoodIn wsL_law (wsV RL 140 RX10 yX10_longest wsX10_longest) := goodIn_app (goodIn_of _ (by decide +kernel)) ggL_law_X10_longest
set_option maxRecDepth 20000 in
theorem ggL_law_L_nearest : GoodIn wsL_law wsL_nearest := goodIn_ca (goodIn_r _ [328, 198, 329, 330, 331, 2, 332, 203, 204, 18, 26, 206, 207, 208, 17, 209, 52, 282, 283, 284, 25, 285, 65, 286, 287, 288, 289, 290, 291, 292, 293, 294, 295, 296, 297, 298, 64, 299, 300, 301, 302, 303, 51, 333, 334, 335, 336, 849, 850, 851, 852, 853, 854, 855, 856, 884, 885, 890, 891, 886, 887, 888, 889] (by decide +kernel) (by decide +kernel)) (goodIn_sub (fun _ h => List.mem_append_right _ h) (by decide +kernel))
set_option maxRecDepth 20000 in
theorem gL_law_L_nearest : GoodIn wsL_law (va_wsS RL 141 yL_nearest wsL_nearest) := goodIn_app (goodIn_of _ (by decide +kernel)) ggL_law_L_nearest
set_option maxRecDepth 20000 in
theorem ggL_law_X10_nearest : GoodIn wsL_law wsX10_nearest := goodIn_r _ [340, 155, 214, 215, 216, 5, 217, 156, 159, 160, 161, 341, 342, 343, 344, 308, 309, 310, 311, 312, 292, 289, 293, 313, 314, 315, 316, 110, 317, 288, 290, 318, 319, 320, 321, 112, 111, 322, 323, 324, 325, 109, 162, 163, 164, 165, 857, 858, 859, 860, 861, 862, 863, 864, 865, 866, 867, 868, 869, 870, 871, 872, 873, 874, 875, 876, 877, 878, 879, 880, 881, 882, 883] (by decide +kernel) (by decide +kernel)
set_option maxRecDepth 20000 in
theorem gL_law_X10_nearest : GoodIn wsL_law (wsV RL 143 RX10 yX10_nearest wsX10_nearest) := goodIn_app (goodIn_of _ (by decide +kernel)) ggL_law_X10_nearest
set_option maxRecDepth 20000 in
theorem ggL_law_L_common : GoodIn wsL_law wsL_common := goodIn_ca (goodIn_ca (goodIn_r _ [347, 198, 131, 348, 349, 350, 2, 351, 203, 204, 137, 138, 18, 206, 207, 208, 17, 209, 52, 352, 301, 302, 303, 51, 849, 850, 851, 852, 853, 854, 855, 856, 884, 885] (by decide +kernel) (by decide +kernel)) (goodIn_sub (fun _ h => List.mem_append_right _ h) (by decide +kernel))) (goodIn_sub (fun _ h => List.mem_append_left _ (List.mem_append_left _ (List.mem_append_right _ h))) (by decide +kernel))
set_option maxRecDepth 20000 in
theorem gL_law_L_common : GoodIn wsL_law (va_wsS RL 144 yL_common wsL_common) := goodIn_app (goodIn_of _ (by decide +kernel)) ggL_law_L_common
set_option maxRecDepth 20000 in
theorem ggL_law_X10_common : GoodIn wsL_law wsX10_common := goodIn_r _ [356, 155, 214, 215, 216, 5, 217, 156, 159, 160, 161, 162, 163, 164, 165, 322, 323, 324, 325, 109, 857, 858, 859, 860, 861, 862, 863, 864, 865, 866, 867, 868, 869, 870, 871, 872, 873, 874, 875, 876, 877, 878, 879, 880, 881, 882, 883] (by decide +kernel) (by decide +kernel)
set_option maxRecDepth 20000 in
theorem gL_law_X10_common : GoodIn wsL_law (wsV RL 146 RX10 yX10_common wsX10_common) := goodIn_app (goodIn_of _ (by decide +kernel)) ggL_law_X10_common
set_option maxRecDepth 20000 in
theorem ggL_law_L_widthOf : GoodIn wsL_law wsL_widthOf := goodIn_ca (goodIn_r _ [359, 131, 360, 361, 362, 2, 363, 137, 138, 364, 365, 366, 367] (by decide +kernel) (by decide +kernel)) (goodIn_sub (fun _ h => List.mem_append_left _ (List.mem_append_left _ (List.mem_append_right _ h))) (by decide +kernel))
set_option maxRecDepth 20000 in
theorem gL_law_L_widthOf : GoodIn wsL_law (va_wsS RL 147 yL_widthOf wsL_widthOf) := goodIn_app (goodIn_of _ (by decide +kernel)) ggL_law_L_widthOf
set_option maxRecDepth 20000 in
theorem ggL_law_X10_widthOf : GoodIn wsL_law wsX10_widthOf := goodIn_r _ [371, 155, 159, 160, 5, 161, 372, 373, 374, 162, 163, 164, 165, 857, 858, 859, 860, 861, 862, 863, 864, 865, 866, 867, 868, 869, 870, 871, 872, 873, 874, 875, 876, 877, 878, 879, 880, 881, 882, 883] (by decide +kernel) (by decide +kernel)
set_option maxRecDepth 20000 in
theorem gL_law_X10_widthOf : GoodIn wsL_law (wsV RL 149 RX10 yX10_widthOf wsX10_widthOf) := goodIn_app (goodIn_of _ (by decide +kernel)) ggL_law_X10_widthOf
set_option maxRecDepth 20000 in
theorem ggL_law_X9_best : GoodIn wsL_law wsX9_best := goodIn_r _ [378, 34, 38, 379, 380, 381, 33, 382, 81, 383, 76, 77, 82, 384, 385, 288, 289, 290, 386, 387, 388, 389, 390, 391, 392, 393, 394, 78, 395, 79, 80, 396, 397, 398, 399, 400, 401, 402, 403, 366, 404, 405, 365, 367, 406, 407, 408, 409, 410, 411, 412, 413, 414, 415, 416, 417, 418, 419, 420, 421, 422, 423, 424, 425, 426, 427, 428, 429, 430, 431, 432, 433, 434, 435, 436, 37, 437, 91, 90, 438, 439, 440, 441, 86, 87, 88, 89, 442, 301, 302, 17, 303, 52, 51, 443, 444, 445, 2, 446, 22, 269, 447, 448, 449, 450, 451, 452, 453, 454, 455, 456, 457, 849, 850, 851, 852, 853, 854, 855, 856, 894, 895, 896, 897, 898, 899, 900, 884, 885, 886, 887, 888, 889, 901, 902, 903, 904, 905, 906] (by decide +kernel) (by decide +kernel)
set_option maxRecDepth 20000 in
theorem gL_law_X9_best : GoodIn wsL_law (wsV RL 150 RX9 yX9_best wsX9_best) := goodIn_app (goodIn_of _ (by decide +kernel)) ggL_law_X9_best
set_option maxRecDepth 20000 in
theorem ggL_law_X10_best : GoodIn wsL_law wsX10_best := goodIn_r _ [461, 155, 120, 156, 121, 125, 462, 122, 123, 124, 158, 322, 323, 324, 5, 325, 109, 463, 464, 465, 466, 112, 317, 288, 289, 290, 111, 274, 126, 313, 314, 315, 316, 110, 467, 468, 469, 372, 373, 374, 470, 471, 472, 473, 474, 475, 476, 477, 478, 479, 480, 481, 113, 116, 114, 115, 482, 483, 484, 485, 857, 858, 859, 860, 861, 862, 863, 864, 865, 866, 867, 868, 869, 870, 871, 872, 873, 874, 875, 876, 877, 878, 879, 880, 881, 882, 883] (by decide +kernel) (by decide +kernel)
set_option maxRecDepth 20000 in
theorem gL_law_X10_best : GoodIn wsL_law (wsV RL 153 RX10 yX10_best wsX10_best) := goodIn_app (goodIn_of _ (by decide +kernel)) ggL_law_X10_best
set_option maxRecDepth 20000 in
theorem ggL_law_X9_greedy : GoodIn wsL_law wsX9_greedy := goodIn_r _ [489, 30, 38, 490, 491, 492, 29, 493, 70, 494, 71, 495, 435, 436, 37, 437, 91, 90, 496, 296, 297, 25, 298, 64, 65, 299, 287, 288, 289, 290, 300, 301, 302, 17, 303, 52, 51, 497, 283, 284, 285, 286, 291, 292, 293, 294, 295, 498, 439, 440, 441, 86, 87, 88, 89, 499, 500, 501, 502, 503, 504, 334, 335, 336, 443, 444, 445, 2, 446, 22, 269, 447, 448, 449, 450, 451, 452, 453, 454, 455, 456, 403, 366, 404, 405, 365, 367, 457, 428, 429, 849, 850, 851, 852, 853, 854, 855, 856, 892, 893, 884, 885, 901, 902, 903, 904, 905, 906, 890, 891, 886, 887, 888, 889] (by decide +kernel) (by decide +kernel)
set_option maxRecDepth 20000 in
theorem gL_law_X9_greedy : GoodIn wsL_law (wsV RL 154 RX9 yX9_greedy wsX9_greedy) := goodIn_app (goodIn_of _ (by decide +kernel)) ggL_law_X9_greedy
set_option maxRecDepth 20000 in
theorem ggL_law_X10_greedy : GoodIn wsL_law wsX10_greedy := goodIn_r _ [508, 509, 510, 511, 5, 512, 155, 462, 156, 114, 158, 513, 514, 515, 516, 112, 317, 288, 289, 290, 322, 323, 324, 325, 109, 308, 309, 310, 311, 312, 292, 293, 313, 314, 315, 316, 110, 318, 319, 320, 321, 111, 478, 479, 480, 481, 113, 116, 115, 517, 518, 519, 520, 341, 342, 343, 344, 482, 483, 484, 485, 274, 467, 468, 469, 372, 373, 374, 857, 858, 859, 860, 861, 862, 863, 864, 865, 866, 867, 868, 869, 870, 871, 872, 873, 874, 875, 876, 877, 878, 879, 880, 881, 882, 883] (by decide +kernel) (by decide +kernel)
set_option maxRecDepth 20000 in
theorem gL_law_X10_greedy : GoodIn wsL_law (wsV RL 157 RX10 yX10_greedy wsX10_greedy) := goodIn_app (goodIn_of _ (by decide +kernel)) ggL_law_X10_greedy
set_option maxRecDepth 20000 in
theorem ggL_law_X9_lazy : GoodIn wsL_law wsX9_lazy := goodIn_r _ [524, 30, 38, 490, 491, 492, 29, 493, 70, 494, 71, 495, 435, 436, 37, 437, 91, 90, 496, 296, 297, 25, 298, 64, 65, 299, 287, 288, 289, 290, 300, 301, 302, 17, 303, 52, 51, 497, 283, 284, 285, 286, 291, 292, 293, 294, 295, 498, 439, 440, 441, 86, 87, 88, 89, 499, 500, 501, 502, 503, 504, 334, 335, 336, 443, 444, 445, 2, 446, 22, 269, 447, 448, 449, 450, 451, 452, 453, 454, 455, 456, 403, 366, 404, 405, 365, 367, 457, 428, 429, 849, 850, 851, 852, 853, 854, 855, 856, 892, 893, 884, 885, 901, 902, 903, 904, 905, 906, 890, 891, 886, 887, 888, 889] (by decide +kernel) (by decide +kernel)
set_option maxRecDepth 20000 in
theorem gL_law_X9_lazy : GoodIn wsL_law (wsV RL 158 RX9 yX9_lazy wsX9_lazy) := goodIn_app (goodIn_of _ (by decide +kernel)) ggL_law_X9_lazy
set_option maxRecDepth 20000 in
theorem ggL_law_X10_lazy : GoodIn wsL_law wsX10_lazy := goodIn_r _ [528, 509, 510, 511, 5, 512, 155, 462, 156, 114, 158, 513, 514, 515, 516, 112, 317, 288, 289, 290, 322, 323, 324, 325, 109, 308, 309, 310, 311, 312, 292, 293, 313, 314, 315, 316, 110, 318, 319, 320, 321, 111, 478, 479, 480, 481, 113, 116, 115, 517, 518, 519, 520, 341, 342, 343, 344, 482, 483, 484, 485, 274, 467, 468, 469, 372, 373, 374, 857, 858, 859, 860, 861, 862, 863, 864, 865, 866, 867, 868, 869, 870, 871, 872, 873, 874, 875, 876, 877, 878, 879, 880, 881, 882, 883] (by decide +kernel) (by decide +kernel)
set_option maxRecDepth 20000 in
theorem gL_law_X10_lazy : GoodIn wsL_law (wsV RL 161 RX10 yX10_lazy wsX10_lazy) := goodIn_app (goodIn_of _ (by decide +kernel)) ggL_law_X10_lazy
set_option maxRecDepth 20000 in
theorem ggL_law_X9_hasPlan : GoodIn wsL_law wsX9_hasPlan := goodIn_r _ [532, 38, 533, 849, 850, 851, 852, 853, 854, 855, 856, 901, 902, 903, 904, 905, 906] (by decide +kernel) (by decide +kernel)
set_option maxRecDepth 20000 in
theorem gL_law_X9_hasPlan : GoodIn wsL_law (wsV RL 162 RX9 yX9_hasPlan wsX9_hasPlan) := goodIn_app (goodIn_of _ (by decide +kernel)) ggL_law_X9_hasPlan
set_option maxRecDepth 20000 in
theorem ggL_law_X10_hasPlan : GoodIn wsL_law wsX10_hasPlan := goodIn_r _ [537, 155, 158, 857, 858, 859, 860, 861, 862, 863, 864, 865, 866, 867, 868, 869, 870, 871, 872, 873, 874, 875, 876, 877, 878, 879, 880, 881, 882, 883] (by decide +kernel) (by decide +kernel)
set_option maxRecDepth 20000 in
theorem gL_law_X10_hasPlan : GoodIn wsL_law (wsV RL 166 RX10 yX10_hasPlan wsX10_hasPlan) := goodIn_app (goodIn_of _ (by decide +kernel)) ggL_law_X10_hasPlan
set_option maxRecDepth 20000 in
theorem ggL_law_L_tokenCount : GoodIn wsL_law wsL_tokenCount := goodIn_ca (goodIn_r _ [540, 132, 541, 542, 543, 2, 544, 139, 140, 38, 533, 447, 849, 850, 851, 852, 853, 854, 855, 856, 901, 902, 903, 904, 905, 906] (by decide +kernel) (by decide +kernel)) (goodIn_sub (fun _ h => List.mem_append_left _ (List.mem_append_right _ h)) (by decide +kernel))
set_option maxRecDepth 20000 in
theorem gL_law_L_tokenCount : GoodIn wsL_law (va_wsS RL 167 yL_tokenCount wsL_tokenCount) := goodIn_app (goodIn_of _ (by decide +kernel)) ggL_law_L_tokenCount
set_option maxRecDepth 20000 in
theorem ggL_law_X10_tokenCount : GoodIn wsL_law wsX10_tokenCount := goodIn_r _ [548, 158, 155, 462, 857, 858, 859, 860, 861, 862, 863, 864, 865, 866, 867, 868, 869, 870, 871, 872, 873, 874, 875, 876, 877, 878, 879, 880, 881, 882, 883] (by decide +kernel) (by decide +kernel)
set_option maxRecDepth 20000 in
theorem gL_law_X10_tokenCount : GoodIn wsL_law (wsV RL 170 RX10 yX10_tokenCount wsX10_tokenCount) := goodIn_app (goodIn_of _ (by decide +kernel)) ggL_law_X10_tokenCount
set_option maxRecDepth 20000 in
theorem ggL_law_L_kind : GoodIn wsL_law wsL_kind := goodIn_ca (goodIn_ca (goodIn_r _ [551, 132, 198, 552, 553, 554, 2, 555, 38, 556, 557, 558, 559, 560, 139, 140, 203, 204, 533, 447, 849, 850, 851, 852, 853, 854, 855, 856, 901, 902, 903, 904, 905, 906] (by decide +kernel) (by decide +kernel)) (goodIn_sub (fun _ h => List.mem_append_left _ (List.mem_append_right _ h)) (by decide +kernel))) (goodIn_sub (fun _ h => List.mem_append_right _ h) (by decide +kernel))
set_option maxRecDepth 20000 in
theorem gL_law_L_kind : GoodIn wsL_law (va_wsS RL 171 yL_kind wsL_kind) := goodIn_app (goodIn_of _ (by decide +kernel)) ggL_law_L_kind
set_option maxRecDepth 20000 in
theorem ggL_law_X10_kind : GoodIn wsL_law wsX10_kind := goodIn_r _ [564, 462, 113, 565, 566, 567, 5, 568, 158, 155, 857, 858, 859, 860, 861, 862, 863, 864, 865, 866, 867, 868, 869, 870, 871, 872, 873, 874, 875, 876, 877, 878, 879, 880, 881, 882, 883] (by decide +kernel) (by decide +kernel)
set_option maxRecDepth 20000 in
theorem gL_law_X10_kind : GoodIn wsL_law (wsV RL 173 RX10 yX10_kind wsX10_kind) := goodIn_app (goodIn_of _ (by decide +kernel)) ggL_law_X10_kind
set_option maxRecDepth 20000 in
theorem ggL_law_L_length : GoodIn wsL_law wsL_length := goodIn_ca (goodIn_ca (goodIn_r _ [571, 132, 198, 572, 573, 574, 2, 575, 38, 576, 557, 558, 559, 560, 139, 140, 203, 204, 533, 447, 849, 850, 851, 852, 853, 854, 855, 856, 901, 902, 903, 904, 905, 906] (by decide +kernel) (by decide +kernel)) (goodIn_sub (fun _ h => List.mem_append_left _ (List.mem_append_right _ h)) (by decide +kernel))) (goodIn_sub (fun _ h => List.mem_append_right _ h) (by decide +kernel))
set_option maxRecDepth 20000 in
theorem gL_law_L_length : GoodIn wsL_law (va_wsS RL 174 yL_length wsL_length) := goodIn_app (goodIn_of _ (by decide +kernel)) ggL_law_L_length
set_option maxRecDepth 20000 in
theorem ggL_law_X10_length : GoodIn wsL_law wsX10_length := goodIn_r _ [580, 462, 114, 565, 566, 567, 5, 568, 158, 155, 857, 858, 859, 860, 861, 862, 863, 864, 865, 866, 867, 868, 869, 870, 871, 872, 873, 874, 875, 876, 877, 878, 879, 880, 881, 882, 883] (by decide +kernel) (by decide +kernel)
set_option maxRecDepth 20000 in
theorem gL_law_X10_length : GoodIn wsL_law (wsV RL 176 RX10 yX10_length wsX10_length) := goodIn_app (goodIn_of _ (by decide +kernel)) ggL_law_X10_length
set_option maxRecDepth 20000 in
theorem ggL_law_L_distance : GoodIn wsL_law wsL_distance := goodIn_ca (goodIn_ca (goodIn_r _ [583, 132, 198, 584, 585, 586, 2, 587, 38, 588, 557, 558, 559, 560, 139, 140, 203, 204, 533, 447, 849, 850, 851, 852, 853, 854, 855, 856, 901, 902, 903, 904, 905, 906] (by decide +kernel) (by decide +kernel)) (goodIn_sub (fun _ h => List.mem_append_left _ (List.mem_append_right _ h)) (by decide +kernel))) (goodIn_sub (fun _ h => List.mem_append_right _ h) (by decide +kernel))
set_option maxRecDepth 20000 in
theorem gL_law_L_distance : GoodIn wsL_law (va_wsS RL 177 yL_distance wsL_distance) := goodIn_app (goodIn_of _ (by decide +kernel)) ggL_law_L_distance
set_option maxRecDepth 20000 in
theorem ggL_law_X10_distance : GoodIn wsL_law wsX10_distance := goodIn_r _ [592, 462, 115, 565, 566, 567, 5, 568, 158, 155, 857, 858, 859, 860, 861, 862, 863, 864, 865, 866, 867, 868, 869, 870, 871, 872, 873, 874, 875, 876, 877, 878, 879, 880, 881, 882, 883] (by decide +kernel) (by decide +kernel)
set_option maxRecDepth 20000 in
theorem gL_law_X10_distance : GoodIn wsL_law (wsV RL 179 RX10 yX10_distance wsX10_distance) := goodIn_app (goodIn_of _ (by decide +kernel)) ggL_law_X10_distance
set_option maxRecDepth 20000 in
theorem ggL_law_L_start : GoodIn wsL_law wsL_start := goodIn_ca (goodIn_ca (goodIn_r _ [595, 132, 198, 596, 597, 598, 2, 599, 38, 600, 557, 558, 559, 560, 139, 140, 203, 204, 533, 447, 849, 850, 851, 852, 853, 854, 855, 856, 901, 902, 903, 904, 905, 906] (by decide +kernel) (by decide +kernel)) (goodIn_sub (fun _ h => List.mem_append_left _ (List.mem_append_right _ h)) (by decide +kernel))) (goodIn_sub (fun _ h => List.mem_append_right _ h) (by decide +kernel))
set_option maxRecDepth 20000 in
theorem gL_law_L_start : GoodIn wsL_law (va_wsS RL 180 yL_start wsL_start) := goodIn_app (goodIn_of _ (by decide +kernel)) ggL_law_L_start
set_option maxRecDepth 20000 in
theorem ggL_law_X10_start : GoodIn wsL_law wsX10_start := goodIn_r _ [604, 462, 116, 565, 566, 567, 5, 568, 158, 155, 857, 858, 859, 860, 861, 862, 863, 864, 865, 866, 867, 868, 869, 870, 871, 872, 873, 874, 875, 876, 877, 878, 879, 880, 881, 882, 883] (by decide +kernel) (by decide +kernel)
set_option maxRecDepth 20000 in
theorem gL_law_X10_start : GoodIn wsL_law (wsV RL 182 RX10 yX10_start wsX10_start) := goodIn_app (goodIn_of _ (by decide +kernel)) ggL_law_X10_start
set_option maxRecDepth 20000 in
theorem ggL_law_L_made : GoodIn wsL_law wsL_made := goodIn_ca (goodIn_ca (goodIn_r _ [607, 132, 198, 608, 609, 610, 2, 611, 139, 140, 203, 204, 38, 533, 612, 613, 614, 37, 615, 90, 86, 87, 849, 850, 851, 852, 853, 854, 855, 856, 901, 902, 903, 904, 905, 906] (by decide +kernel) (by decide +kernel)) (goodIn_sub (fun _ h => List.mem_append_left _ (List.mem_append_right _ h)) (by decide +kernel))) (goodIn_sub (fun _ h => List.mem_append_right _ h) (by decide +kernel))
set_option maxRecDepth 20000 in
theorem gL_law_L_made : GoodIn wsL_law (va_wsS RL 183 yL_made wsL_made) := goodIn_app (goodIn_of _ (by decide +kernel)) ggL_law_L_made
set_option maxRecDepth 20000 in
theorem ggL_law_X10_made : GoodIn wsL_law wsX10_made := goodIn_r _ [619, 462, 113, 114, 565, 566, 567, 5, 568, 158, 155, 857, 858, 859, 860, 861, 862, 863, 864, 865, 866, 867, 868, 869, 870, 871, 872, 873, 874, 875, 876, 877, 878, 879, 880, 881, 882, 883] (by decide +kernel) (by decide +kernel)
set_option maxRecDepth 20000 in
theorem gL_law_X10_made : GoodIn wsL_law (wsV RL 185 RX10 yX10_made wsX10_made) := goodIn_app (goodIn_of _ (by decide +kernel)) ggL_law_X10_made
set_option maxRecDepth 20000 in
theorem ggL_law_L_ratio : GoodIn wsL_law wsL_ratio := goodIn_ca (goodIn_r _ [622, 132, 623, 624, 625, 2, 626, 139, 140, 38, 533, 18, 141, 448, 449, 450, 37, 451, 90, 452, 453, 454, 455, 86, 88, 87, 456, 403, 366, 404, 405, 365, 367, 457, 428, 429, 849, 850, 851, 852, 853, 854, 855, 856, 901, 902, 903, 904, 905, 906, 884, 885] (by decide +kernel) (by decide +kernel)) (goodIn_sub (fun _ h => List.mem_append_left _ (List.mem_append_right _ h)) (by decide +kernel))
set_option maxRecDepth 20000 in
theorem gL_law_L_ratio : GoodIn wsL_law (va_wsS RL 186 yL_ratio wsL_ratio) := goodIn_app (goodIn_of _ (by decide +kernel)) ggL_law_L_ratio
set_option maxRecDepth 20000 in
theorem ggL_law_X10_ratio : GoodIn wsL_law wsX10_ratio := goodIn_r _ [630, 158, 155, 156, 274, 462, 482, 483, 484, 5, 485, 113, 114, 115, 467, 468, 469, 372, 373, 374, 857, 858, 859, 860, 861, 862, 863, 864, 865, 866, 867, 868, 869, 870, 871, 872, 873, 874, 875, 876, 877, 878, 879, 880, 881, 882, 883] (by decide +kernel) (by decide +kernel)
set_option maxRecDepth 20000 in
theorem gL_law_X10_ratio : GoodIn wsL_law (wsV RL 189 RX10 yX10_ratio wsX10_ratio) := goodIn_app (goodIn_of _ (by decide +kernel)) ggL_law_X10_ratio
set_option maxRecDepth 20000 in
theorem ggL_law_L_write : GoodIn wsL_law wsL_write := goodIn_ca (goodIn_r _ [633, 132, 634, 635, 636, 2, 637, 139, 140, 38, 533, 42, 638, 447, 639, 640, 641, 642, 556, 18, 205, 600, 588, 576, 643, 644, 645, 41, 646, 96, 95, 647, 648, 649, 650, 651, 365, 366, 367, 652, 849, 850, 851, 852, 853, 854, 855, 856, 901, 902, 903, 904, 905, 906, 907, 908, 884, 885] (by decide +kernel) (by decide +kernel)) (goodIn_sub (fun _ h => List.mem_append_left _ (List.mem_append_right _ h)) (by decide +kernel))
set_option maxRecDepth 20000 in
theorem gL_law_L_write : GoodIn wsL_law (va_wsS RL 190 yL_write wsL_write) := goodIn_app (goodIn_of _ (by decide +kernel)) ggL_law_L_write
set_option maxRecDepth 20000 in
theorem ggL_law_X10_write : GoodIn wsL_law wsX10_write := goodIn_r _ [656, 155, 158, 657, 462, 113, 109, 116, 115, 114, 162, 163, 164, 5, 165, 658, 659, 660, 661, 117, 662, 663, 664, 665, 372, 373, 374, 857, 858, 859, 860, 861, 862, 863, 864, 865, 866, 867, 868, 869, 870, 871, 872, 873, 874, 875, 876, 877, 878, 879, 880, 881, 882, 883] (by decide +kernel) (by decide +kernel)
set_option maxRecDepth 20000 in
theorem gL_law_X10_write : GoodIn wsL_law (wsV RL 192 RX10 yX10_write wsX10_write) := goodIn_app (goodIn_of _ (by decide +kernel)) ggL_law_X10_write
set_option maxRecDepth 20000 in
theorem ggL_law_X9_bitCount : GoodIn wsL_law wsX9_bitCount := goodIn_r _ [669, 42, 638, 849, 850, 851, 852, 853, 854, 855, 856, 907, 908] (by decide +kernel) (by decide +kernel)
set_option maxRecDepth 20000 in
theorem gL_law_X9_bitCount : GoodIn wsL_law (wsV RL 193 RX9 yX9_bitCount wsX9_bitCount) := goodIn_app (goodIn_of _ (by decide +kernel)) ggL_law_X9_bitCount
set_option maxRecDepth 20000 in
theorem ggL_law_X10_bitCount : GoodIn wsL_law wsX10_bitCount := goodIn_r _ [673, 155, 657, 857, 858, 859, 860, 861, 862, 863, 864, 865, 866, 867, 868, 869, 870, 871, 872, 873, 874, 875, 876, 877, 878, 879, 880, 881, 882, 883] (by decide +kernel) (by decide +kernel)
set_option maxRecDepth 20000 in
theorem gL_law_X10_bitCount : GoodIn wsL_law (wsV RL 196 RX10 yX10_bitCount wsX10_bitCount) := goodIn_app (goodIn_of _ (by decide +kernel)) ggL_law_X10_bitCount
set_option maxRecDepth 20000 in
theorem ggL_law_L_bit : GoodIn wsL_law wsL_bit := goodIn_ca (goodIn_r _ [676, 198, 677, 678, 679, 2, 680, 203, 204, 42, 681, 682, 683, 684, 41, 685, 96, 849, 850, 851, 852, 853, 854, 855, 856, 907, 908] (by decide +kernel) (by decide +kernel)) (goodIn_sub (fun _ h => List.mem_append_right _ h) (by decide +kernel))
set_option maxRecDepth 20000 in
theorem gL_law_L_bit : GoodIn wsL_law (va_wsS RL 197 yL_bit wsL_bit) := goodIn_app (goodIn_of _ (by decide +kernel)) ggL_law_L_bit
set_option maxRecDepth 20000 in
theorem ggL_law_X10_bit : GoodIn wsL_law wsX10_bit := goodIn_r _ [689, 155, 657, 117, 159, 160, 5, 161, 162, 163, 164, 165, 857, 858, 859, 860, 861, 862, 863, 864, 865, 866, 867, 868, 869, 870, 871, 872, 873, 874, 875, 876, 877, 878, 879, 880, 881, 882, 883] (by decide +kernel) (by decide +kernel)
set_option maxRecDepth 20000 in
theorem gL_law_X10_bit : GoodIn wsL_law (wsV RL 199 RX10 yX10_bit wsX10_bit) := goodIn_app (goodIn_of _ (by decide +kernel)) ggL_law_X10_bit
set_option maxRecDepth 20000 in
theorem ggL_law_L_flip : GoodIn wsL_law wsL_flip := goodIn_ca (goodIn_r _ [692, 198, 693, 694, 695, 2, 696, 203, 204, 42, 681, 682, 683, 684, 41, 685, 96, 849, 850, 851, 852, 853, 854, 855, 856, 907, 908] (by decide +kernel) (by decide +kernel)) (goodIn_sub (fun _ h => List.mem_append_right _ h) (by decide +kernel))
set_option maxRecDepth 20000 in
theorem gL_law_L_flip : GoodIn wsL_law (va_wsS RL 200 yL_flip wsL_flip) := goodIn_app (goodIn_of _ (by decide +kernel)) ggL_law_L_flip
set_option maxRecDepth 20000 in
theorem ggL_law_X10_flip : GoodIn wsL_law wsX10_flip := goodIn_r _ [700, 155, 657, 117, 159, 160, 5, 161, 162, 163, 164, 165, 857, 858, 859, 860, 861, 862, 863, 864, 865, 866, 867, 868, 869, 870, 871, 872, 873, 874, 875, 876, 877, 878, 879, 880, 881, 882, 883] (by decide +kernel) (by decide +kernel)
set_option maxRecDepth 20000 in
theorem gL_law_X10_flip : GoodIn wsL_law (wsV RL 202 RX10 yX10_flip wsX10_flip) := goodIn_app (goodIn_of _ (by decide +kernel)) ggL_law_X10_flip
set_option maxRecDepth 20000 in
theorem ggL_law_L_appendBits : GoodIn wsL_law wsL_appendBits := goodIn_ca (goodIn_ca (goodIn_r _ [703, 131, 132, 704, 705, 706, 2, 707, 137, 138, 139, 140, 42, 638, 643, 644, 645, 41, 646, 96, 95, 849, 850, 851, 852, 853, 854, 855, 856, 907, 908] (by decide +kernel) (by decide +kernel)) (goodIn_sub (fun _ h => List.mem_append_left _ (List.mem_append_left _ (List.mem_append_right _ h))) (by decide +kernel))) (goodIn_sub (fun _ h => List.mem_append_left _ (List.mem_append_right _ h)) (by decide +kernel))
set_option maxRecDepth 20000 in
theorem gL_law_L_appendBits : GoodIn wsL_law (va_wsS RL 203 yL_appendBits wsL_appendBits) := goodIn_app (goodIn_of _ (by decide +kernel)) ggL_law_L_appendBits
set_option maxRecDepth 20000 in
theorem ggL_law_X10_appendBits : GoodIn wsL_law wsX10_appendBits := goodIn_r _ [711, 155, 657, 159, 160, 5, 161, 162, 163, 164, 165, 658, 659, 660, 661, 117, 857, 858, 859, 860, 861, 862, 863, 864, 865, 866, 867, 868, 869, 870, 871, 872, 873, 874, 875, 876, 877, 878, 879, 880, 881, 882, 883] (by decide +kernel) (by decide +kernel)
set_option maxRecDepth 20000 in
theorem gL_law_X10_appendBits : GoodIn wsL_law (wsV RL 205 RX10 yX10_appendBits wsX10_appendBits) := goodIn_app (goodIn_of _ (by decide +kernel)) ggL_law_X10_appendBits
set_option maxRecDepth 20000 in
theorem ggL_law_L_cutBits : GoodIn wsL_law wsL_cutBits := goodIn_ca (goodIn_r _ [714, 131, 715, 716, 717, 2, 718, 137, 138, 42, 638, 849, 850, 851, 852, 853, 854, 855, 856, 907, 908] (by decide +kernel) (by decide +kernel)) (goodIn_sub (fun _ h => List.mem_append_left _ (List.mem_append_left _ (List.mem_append_right _ h))) (by decide +kernel))
set_option maxRecDepth 20000 in
theorem gL_law_L_cutBits : GoodIn wsL_law (va_wsS RL 206 yL_cutBits wsL_cutBits) := goodIn_app (goodIn_of _ (by decide +kernel)) ggL_law_L_cutBits
set_option maxRecDepth 20000 in
theorem ggL_law_X10_cutBits : GoodIn wsL_law wsX10_cutBits := goodIn_r _ [722, 155, 657, 159, 160, 5, 161, 162, 163, 164, 165, 857, 858, 859, 860, 861, 862, 863, 864, 865, 866, 867, 868, 869, 870, 871, 872, 873, 874, 875, 876, 877, 878, 879, 880, 881, 882, 883] (by decide +kernel) (by decide +kernel)
set_option maxRecDepth 20000 in
theorem gL_law_X10_cutBits : GoodIn wsL_law (wsV RL 208 RX10 yX10_cutBits wsX10_cutBits) := goodIn_app (goodIn_of _ (by decide +kernel)) ggL_law_X10_cutBits
set_option maxRecDepth 20000 in
theorem ggL_law_X9_read : GoodIn wsL_law wsX9_read := goodIn_r _ [726, 46, 42, 727, 728, 729, 45, 730, 101, 102, 103, 104, 731, 732, 733, 734, 735, 736, 737, 738, 739, 740, 741, 742, 743, 744, 100, 745, 746, 747, 748, 749, 750, 751, 752, 753, 754, 755, 756, 757, 758, 759, 760, 761, 762, 763, 764, 849, 850, 851, 852, 853, 854, 855, 856, 909, 910, 911, 912, 913, 907, 908] (by decide +kernel) (by decide +kernel)
set_option maxRecDepth 20000 in
theorem gL_law_X9_read : GoodIn wsL_law (wsV RL 209 RX9 yX9_read wsX9_read) := goodIn_app (goodIn_of _ (by decide +kernel)) ggL_law_X9_read
set_option maxRecDepth 20000 in
theorem ggL_law_X10_read : GoodIn wsL_law wsX10_read := goodIn_r _ [768, 155, 769, 770, 771, 119, 657, 118, 772, 773, 774, 5, 775, 117, 776, 777, 778, 779, 780, 781, 782, 783, 857, 858, 859, 860, 861, 862, 863, 864, 865, 866, 867, 868, 869, 870, 871, 872, 873, 874, 875, 876, 877, 878, 879, 880, 881, 882, 883] (by decide +kernel) (by decide +kernel)
set_option maxRecDepth 20000 in
theorem gL_law_X10_read : GoodIn wsL_law (wsV RL 212 RX10 yX10_read wsX10_read) := goodIn_app (goodIn_of _ (by decide +kernel)) ggL_law_X10_read
set_option maxRecDepth 20000 in
theorem ggL_law_X9_errorPosition : GoodIn wsL_law wsX9_errorPosition := goodIn_r _ [787, 46, 788, 849, 850, 851, 852, 853, 854, 855, 856, 909, 910, 911, 912, 913] (by decide +kernel) (by decide +kernel)
set_option maxRecDepth 20000 in
theorem gL_law_X9_errorPosition : GoodIn wsL_law (wsV RL 213 RX9 yX9_errorPosition wsX9_errorPosition) := goodIn_app (goodIn_of _ (by decide +kernel)) ggL_law_X9_errorPosition
set_option maxRecDepth 20000 in
theorem ggL_law_X10_errorPosition : GoodIn wsL_law wsX10_errorPosition := goodIn_r _ [792, 155, 119, 857, 858, 859, 860, 861, 862, 863, 864, 865, 866, 867, 868, 869, 870, 871, 872, 873, 874, 875, 876, 877, 878, 879, 880, 881, 882, 883] (by decide +kernel) (by decide +kernel)
set_option maxRecDepth 20000 in
theorem gL_law_X10_errorPosition : GoodIn wsL_law (wsV RL 216 RX10 yX10_errorPosition wsX10_errorPosition) := goodIn_app (goodIn_of _ (by decide +kernel)) ggL_law_X10_errorPosition
set_option maxRecDepth 20000 in
theorem ggL_law_X9_outputSize : GoodIn wsL_law wsX9_outputSize := goodIn_r _ [796, 46, 797, 849, 850, 851, 852, 853, 854, 855, 856, 909, 910, 911, 912, 913] (by decide +kernel) (by decide +kernel)
set_option maxRecDepth 20000 in
theorem gL_law_X9_outputSize : GoodIn wsL_law (wsV RL 217 RX9 yX9_outputSize wsX9_outputSize) := goodIn_app (goodIn_of _ (by decide +kernel)) ggL_law_X9_outputSize
set_option maxRecDepth 20000 in
theorem ggL_law_X10_outputSize : GoodIn wsL_law wsX10_outputSize := goodIn_r _ [801, 155, 769, 857, 858, 859, 860, 861, 862, 863, 864, 865, 866, 867, 868, 869, 870, 871, 872, 873, 874, 875, 876, 877, 878, 879, 880, 881, 882, 883] (by decide +kernel) (by decide +kernel)
set_option maxRecDepth 20000 in
theorem gL_law_X10_outputSize : GoodIn wsL_law (wsV RL 220 RX10 yX10_outputSize wsX10_outputSize) := goodIn_app (goodIn_of _ (by decide +kernel)) ggL_law_X10_outputSize
set_option maxRecDepth 20000 in
theorem ggL_law_L_output : GoodIn wsL_law wsL_output := goodIn_ca (goodIn_r _ [804, 198, 805, 806, 807, 2, 808, 203, 204, 46, 797, 809, 849, 850, 851, 852, 853, 854, 855, 856, 909, 910, 911, 912, 913] (by decide +kernel) (by decide +kernel)) (goodIn_sub (fun _ h => List.mem_append_right _ h) (by decide +kernel))
set_option maxRecDepth 20000 in
theorem gL_law_L_output : GoodIn wsL_law (va_wsS RL 221 yL_output wsL_output) := goodIn_app (goodIn_of _ (by decide +kernel)) ggL_law_L_output
set_option maxRecDepth 20000 in
theorem ggL_law_X10_output : GoodIn wsL_law wsX10_output := goodIn_r _ [813, 155, 769, 118, 159, 160, 5, 161, 162, 163, 164, 165, 857, 858, 859, 860, 861, 862, 863, 864, 865, 866, 867, 868, 869, 870, 871, 872, 873, 874, 875, 876, 877, 878, 879, 880, 881, 882, 883] (by decide +kernel) (by decide +kernel)
set_option maxRecDepth 20000 in
theorem gL_law_X10_output : GoodIn wsL_law (wsV RL 223 RX10 yX10_output wsX10_output) := goodIn_app (goodIn_of _ (by decide +kernel)) ggL_law_X10_output
set_option maxRecDepth 20000 in
theorem ggL_law_X9_differences : GoodIn wsL_law wsX9_differences := goodIn_r _ [817, 18, 141, 46, 797, 818, 288, 289, 290, 819, 292, 293, 205, 809, 849, 850, 851, 852, 853, 854, 855, 856, 884, 885, 909, 910, 911, 912, 913] (by decide +kernel) (by decide +kernel)
set_option maxRecDepth 20000 in
theorem gL_law_X9_differences : GoodIn wsL_law (wsV RL 224 RX9 yX9_differences wsX9_differences) := goodIn_app (goodIn_of _ (by decide +kernel)) ggL_law_X9_differences
set_option maxRecDepth 20000 in
theorem ggL_law_X10_differences : GoodIn wsL_law wsX10_differences := goodIn_r _ [823, 155, 156, 769, 824, 825, 289, 826, 109, 118, 857, 858, 859, 860, 861, 862, 863, 864, 865, 866, 867, 868, 869, 870, 871, 872, 873, 874, 875, 876, 877, 878, 879, 880, 881, 882, 883] (by decide +kernel) (by decide +kernel)
set_option maxRecDepth 20000 in
theorem gL_law_X10_differences : GoodIn wsL_law (wsV RL 227 RX10 yX10_differences wsX10_differences) := goodIn_app (goodIn_of _ (by decide +kernel)) ggL_law_X10_differences
set_option maxRecDepth 20000 in
theorem ggL_law_X9_digest : GoodIn wsL_law wsX9_digest := goodIn_r _ [830, 831, 18, 205, 141, 22, 244, 256, 257, 269, 38, 533, 42, 681, 638, 46, 809, 797, 832, 833, 2, 834, 835, 836, 837, 838, 839, 840, 841, 842, 447, 556, 576, 588, 849, 850, 851, 852, 853, 854, 855, 856, 884, 885, 886, 887, 888, 889, 901, 902, 903, 904, 905, 906, 907, 908, 909, 910, 911, 912, 913] (by decide +kernel) (by decide +kernel)
set_option maxRecDepth 20000 in
theorem gL_law_X9_digest : GoodIn wsL_law (wsV RL 228 RX9 yX9_digest wsX9_digest) := goodIn_app (goodIn_of _ (by decide +kernel)) ggL_law_X9_digest
set_option maxRecDepth 20000 in
theorem ggL_law_X10_digest : GoodIn wsL_law wsX10_digest := goodIn_r _ [846, 155, 847, 156, 848, 109, 110, 111, 112, 274, 158, 462, 113, 114, 115, 657, 117, 769, 118, 857, 858, 859, 860, 861, 862, 863, 864, 865, 866, 867, 868, 869, 870, 871, 872, 873, 874, 875, 876, 877, 878, 879, 880, 881, 882, 883] (by decide +kernel) (by decide +kernel)
set_option maxRecDepth 20000 in
theorem gL_law_X10_digest : GoodIn wsL_law (wsV RL 232 RX10 yX10_digest wsX10_digest) := goodIn_app (goodIn_of _ (by decide +kernel)) ggL_law_X10_digest
