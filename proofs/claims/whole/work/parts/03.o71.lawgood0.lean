set_option maxRecDepth 20000 in
theorem ggL_law_X6_init : GoodIn wsL_law wsX6_init := goodIn_r _ [9, 10, 11, 12, 13, 14, 15, 16, 17, 18, 19, 20, 21, 22, 23, 24, 25, 26, 27, 28, 29, 30, 31, 32, 33, 34, 35, 36, 37, 38, 39, 40, 41, 42, 43, 44, 6, 45, 46, 47, 48, 49, 50, 51, 52, 53, 54, 55, 56, 57, 58, 59, 60, 61, 62, 63, 64, 65, 66, 67, 68, 69, 70, 71, 72, 73, 74, 75, 76, 77, 78, 79, 80, 81, 82, 83, 84, 85, 86, 87, 88, 89, 90, 91, 92, 93, 94, 95, 96, 97, 98, 99, 100, 101, 102, 103, 933, 934, 935, 902, 903, 904, 905, 906, 936, 937, 938, 939, 940, 941, 942, 943, 944, 945] (by decide +kernel) (by decide +kernel)
set_option maxRecDepth 20000 in
theorem gL_law_X6_init : GoodIn wsL_law (wsX6_init) := ggL_law_X6_init
set_option maxRecDepth 20000 in
theorem ggL_law_X7_init : GoodIn wsL_law wsX7_init := goodIn_r _ [106, 107, 11, 12, 108, 109, 110, 111, 112, 113, 114, 115, 116, 117, 118, 119, 120, 121, 122, 6, 123, 124, 125, 907, 908, 909, 910, 911, 912, 913, 914, 915, 916, 917, 918, 919, 920, 921, 922, 923, 924, 925, 926, 927, 928, 929, 930, 931, 932] (by decide +kernel) (by decide +kernel)
set_option maxRecDepth 20000 in
theorem gL_law_X7_init : GoodIn wsL_law (wsX7_init) := ggL_law_X7_init
set_option maxRecDepth 20000 in
theorem ggL_law_L_client : GoodIn wsL_law wsL_client := goodIn_ca (goodIn_ca (goodIn_r _ [129, 130, 131, 132, 133, 134, 2, 135, 16, 136, 137, 138, 139, 140, 141, 142, 143, 144, 145, 146, 147, 148, 149, 15, 150, 57, 151, 152, 153, 154, 155, 156, 157, 158, 159, 11, 12, 160, 161, 51, 52, 53, 54, 55, 56, 31, 58, 59, 60, 61, 62, 63, 64, 65, 66, 67, 68, 69, 30, 70, 71, 72, 73, 74, 75, 76, 77, 78, 79, 80, 81, 82, 83, 84, 85, 86, 87, 88, 89, 90, 91, 92, 93, 94, 95, 96, 97, 98, 99, 100, 101, 102, 103, 902, 903, 904, 905, 906, 946, 947, 933, 934, 935] (by decide +kernel) (by decide +kernel)) (goodIn_sub (fun _ h => List.mem_append_left _ (List.mem_append_left _ (List.mem_append_right _ h))) (by decide +kernel))) (goodIn_sub (fun _ h => List.mem_append_left _ (List.mem_append_right _ h)) (by decide +kernel))
set_option maxRecDepth 20000 in
theorem gL_law_L_client : GoodIn wsL_law (va_wsS RL 121 yL_client wsL_client) := goodIn_app (goodIn_of _ (by decide +kernel)) ggL_law_L_client
set_option maxRecDepth 20000 in
theorem ggL_law_X7_client : GoodIn wsL_law wsX7_client := goodIn_r _ [165, 166, 109, 110, 167, 168, 5, 169, 170, 171, 172, 173, 174, 175, 176, 177, 907, 908, 909, 910, 911, 912, 913, 914, 915, 916, 917, 918, 919, 920, 921, 922, 923, 924, 925, 926, 927, 928, 929, 930, 931, 932] (by decide +kernel) (by decide +kernel)
set_option maxRecDepth 20000 in
theorem gL_law_X7_client : GoodIn wsL_law (wsV RL 126 RX7 yX7_client wsX7_client) := goodIn_app (goodIn_of _ (by decide +kernel)) ggL_law_X7_client
set_option maxRecDepth 20000 in
theorem ggL_law_X7_thrown : GoodIn wsL_law wsX7_thrown := goodIn_r _ [181, 177, 907, 908, 909, 910, 911, 912, 913, 914, 915, 916, 917, 918, 919, 920, 921, 922, 923, 924, 925, 926, 927, 928, 929, 930, 931, 932] (by decide +kernel) (by decide +kernel)
set_option maxRecDepth 20000 in
theorem gL_law_X7_thrown : GoodIn wsL_law (wsV RL 127 RX7 yX7_thrown wsX7_thrown) := goodIn_app (goodIn_of _ (by decide +kernel)) ggL_law_X7_thrown
set_option maxRecDepth 20000 in
theorem ggL_law_L_move : GoodIn wsL_law wsL_move := goodIn_ca (goodIn_ca (goodIn_r _ [184, 185, 130, 186, 187, 188, 2, 189, 16, 190, 191, 192, 193, 194, 147, 148, 149, 15, 150, 57, 195, 196, 197, 198, 199, 139, 140, 141, 142, 143, 144, 145, 146, 200, 201, 202, 203, 204, 205, 206, 207, 208, 209, 210, 211, 212, 213, 214, 215, 31, 902, 903, 904, 905, 906, 946, 947, 933, 934, 935] (by decide +kernel) (by decide +kernel)) (goodIn_sub (fun _ h => List.mem_append_right _ h) (by decide +kernel))) (goodIn_sub (fun _ h => List.mem_append_left _ (List.mem_append_left _ (List.mem_append_right _ h))) (by decide +kernel))
set_option maxRecDepth 20000 in
theorem gL_law_L_move : GoodIn wsL_law (va_wsS RL 131 yL_move wsL_move) := goodIn_app (goodIn_of _ (by decide +kernel)) ggL_law_L_move
set_option maxRecDepth 20000 in
theorem ggL_law_X7_move : GoodIn wsL_law wsX7_move := goodIn_r _ [219, 109, 110, 220, 221, 222, 5, 223, 166, 170, 171, 172, 167, 168, 169, 173, 174, 175, 176, 177, 907, 908, 909, 910, 911, 912, 913, 914, 915, 916, 917, 918, 919, 920, 921, 922, 923, 924, 925, 926, 927, 928, 929, 930, 931, 932] (by decide +kernel) (by decide +kernel)
set_option maxRecDepth 20000 in
theorem gL_law_X7_move : GoodIn wsL_law (wsV RL 134 RX7 yX7_move wsX7_move) := goodIn_app (goodIn_of _ (by decide +kernel)) ggL_law_X7_move
set_option maxRecDepth 20000 in
theorem ggL_law_X6_clients : GoodIn wsL_law wsX6_clients := goodIn_r _ [227, 16, 147, 148, 149, 15, 150, 57, 902, 903, 904, 905, 906, 933, 934, 935] (by decide +kernel) (by decide +kernel)
set_option maxRecDepth 20000 in
theorem gL_law_X6_clients : GoodIn wsL_law (wsV RL 135 RX6 yX6_clients wsX6_clients) := goodIn_app (goodIn_of _ (by decide +kernel)) ggL_law_X6_clients
set_option maxRecDepth 20000 in
theorem ggL_law_X7_clients : GoodIn wsL_law wsX7_clients := goodIn_r _ [231, 177, 166, 907, 908, 909, 910, 911, 912, 913, 914, 915, 916, 917, 918, 919, 920, 921, 922, 923, 924, 925, 926, 927, 928, 929, 930, 931, 932] (by decide +kernel) (by decide +kernel)
set_option maxRecDepth 20000 in
theorem gL_law_X7_clients : GoodIn wsL_law (wsV RL 138 RX7 yX7_clients wsX7_clients) := goodIn_app (goodIn_of _ (by decide +kernel)) ggL_law_X7_clients
set_option maxRecDepth 20000 in
theorem ggL_law_L_layer : GoodIn wsL_law wsL_layer := goodIn_ca (goodIn_ca (goodIn_r _ [234, 130, 131, 235, 236, 237, 2, 238, 17, 239, 240, 241, 242, 243, 244, 245, 246, 247, 139, 140, 141, 142, 143, 144, 145, 146, 147, 148, 149, 15, 150, 57, 151, 152, 153, 154, 155, 248, 249, 250, 251, 11, 12, 108, 252, 253, 254, 255, 256, 257, 258, 259, 51, 52, 53, 54, 55, 56, 31, 58, 59, 60, 61, 62, 63, 64, 65, 66, 67, 68, 69, 30, 70, 71, 72, 73, 74, 75, 76, 77, 78, 79, 80, 81, 82, 83, 84, 85, 86, 87, 88, 89, 90, 91, 92, 93, 94, 95, 96, 97, 98, 99, 100, 101, 102, 103, 902, 903, 904, 905, 906, 948, 949, 950, 951, 952, 953, 954, 933, 934, 935] (by decide +kernel) (by decide +kernel)) (goodIn_sub (fun _ h => List.mem_append_left _ (List.mem_append_left _ (List.mem_append_right _ h))) (by decide +kernel))) (goodIn_sub (fun _ h => List.mem_append_left _ (List.mem_append_right _ h)) (by decide +kernel))
set_option maxRecDepth 20000 in
theorem gL_law_L_layer : GoodIn wsL_law (va_wsS RL 139 yL_layer wsL_layer) := goodIn_app (goodIn_of _ (by decide +kernel)) ggL_law_L_layer
set_option maxRecDepth 20000 in
theorem ggL_law_X7_layer : GoodIn wsL_law wsX7_layer := goodIn_r _ [263, 264, 111, 112, 113, 170, 171, 5, 172, 173, 174, 175, 176, 177, 907, 908, 909, 910, 911, 912, 913, 914, 915, 916, 917, 918, 919, 920, 921, 922, 923, 924, 925, 926, 927, 928, 929, 930, 931, 932] (by decide +kernel) (by decide +kernel)
set_option maxRecDepth 20000 in
theorem gL_law_X7_layer : GoodIn wsL_law (wsV RL 142 RX7 yX7_layer wsX7_layer) := goodIn_app (goodIn_of _ (by decide +kernel)) ggL_law_X7_layer
set_option maxRecDepth 20000 in
theorem ggL_law_L_rank : GoodIn wsL_law wsL_rank := goodIn_ca (goodIn_ca (goodIn_r _ [267, 185, 130, 268, 269, 270, 2, 271, 17, 272, 273, 274, 275, 276, 147, 148, 149, 15, 150, 57, 195, 196, 197, 198, 199, 242, 243, 244, 142, 143, 144, 145, 146, 200, 201, 202, 203, 204, 205, 206, 207, 208, 209, 210, 211, 212, 213, 214, 215, 31, 902, 903, 904, 905, 906, 948, 949, 950, 951, 952, 953, 954, 933, 934, 935] (by decide +kernel) (by decide +kernel)) (goodIn_sub (fun _ h => List.mem_append_right _ h) (by decide +kernel))) (goodIn_sub (fun _ h => List.mem_append_left _ (List.mem_append_left _ (List.mem_append_right _ h))) (by decide +kernel))
set_option maxRecDepth 20000 in
theorem gL_law_L_rank : GoodIn wsL_law (va_wsS RL 143 yL_rank wsL_rank) := goodIn_app (goodIn_of _ (by decide +kernel)) ggL_law_L_rank
set_option maxRecDepth 20000 in
theorem ggL_law_X7_rank : GoodIn wsL_law wsX7_rank := goodIn_r _ [280, 111, 281, 282, 283, 5, 284, 264, 170, 171, 172, 173, 174, 175, 176, 177, 907, 908, 909, 910, 911, 912, 913, 914, 915, 916, 917, 918, 919, 920, 921, 922, 923, 924, 925, 926, 927, 928, 929, 930, 931, 932] (by decide +kernel) (by decide +kernel)
set_option maxRecDepth 20000 in
theorem gL_law_X7_rank : GoodIn wsL_law (wsV RL 145 RX7 yX7_rank wsX7_rank) := goodIn_app (goodIn_of _ (by decide +kernel)) ggL_law_X7_rank
set_option maxRecDepth 20000 in
theorem ggL_law_X6_layers : GoodIn wsL_law wsX6_layers := goodIn_r _ [288, 17, 147, 148, 149, 15, 150, 57, 902, 903, 904, 905, 906, 933, 934, 935] (by decide +kernel) (by decide +kernel)
set_option maxRecDepth 20000 in
theorem gL_law_X6_layers : GoodIn wsL_law (wsV RL 146 RX6 yX6_layers wsX6_layers) := goodIn_app (goodIn_of _ (by decide +kernel)) ggL_law_X6_layers
set_option maxRecDepth 20000 in
theorem ggL_law_X7_layers : GoodIn wsL_law wsX7_layers := goodIn_r _ [292, 177, 264, 907, 908, 909, 910, 911, 912, 913, 914, 915, 916, 917, 918, 919, 920, 921, 922, 923, 924, 925, 926, 927, 928, 929, 930, 931, 932] (by decide +kernel) (by decide +kernel)
set_option maxRecDepth 20000 in
theorem gL_law_X7_layers : GoodIn wsL_law (wsV RL 149 RX7 yX7_layers wsX7_layers) := goodIn_app (goodIn_of _ (by decide +kernel)) ggL_law_X7_layers
set_option maxRecDepth 20000 in
theorem ggL_law_L_layerAt : GoodIn wsL_law wsL_layerAt := goodIn_ca (goodIn_r _ [295, 185, 296, 297, 298, 2, 299, 198, 199, 17, 147, 148, 149, 15, 150, 57, 300, 301, 302, 303, 304, 305, 306, 307, 272, 200, 201, 202, 203, 204, 205, 206, 207, 208, 209, 210, 211, 212, 213, 214, 215, 31, 902, 903, 904, 905, 906, 933, 934, 935, 948, 949, 950, 951, 952, 953, 954] (by decide +kernel) (by decide +kernel)) (goodIn_sub (fun _ h => List.mem_append_right _ h) (by decide +kernel))
set_option maxRecDepth 20000 in
theorem gL_law_L_layerAt : GoodIn wsL_law (va_wsS RL 150 yL_layerAt wsL_layerAt) := goodIn_app (goodIn_of _ (by decide +kernel)) ggL_law_L_layerAt
set_option maxRecDepth 20000 in
theorem ggL_law_X7_layerAt : GoodIn wsL_law wsX7_layerAt := goodIn_r _ [311, 264, 170, 171, 5, 172, 173, 174, 175, 176, 177, 312, 313, 314, 315, 111, 907, 908, 909, 910, 911, 912, 913, 914, 915, 916, 917, 918, 919, 920, 921, 922, 923, 924, 925, 926, 927, 928, 929, 930, 931, 932] (by decide +kernel) (by decide +kernel)
set_option maxRecDepth 20000 in
theorem gL_law_X7_layerAt : GoodIn wsL_law (wsV RL 153 RX7 yX7_layerAt wsX7_layerAt) := goodIn_app (goodIn_of _ (by decide +kernel)) ggL_law_X7_layerAt
set_option maxRecDepth 20000 in
theorem ggL_law_L_applies : GoodIn wsL_law wsL_applies := goodIn_ca (goodIn_r _ [318, 185, 319, 320, 321, 2, 322, 273, 274, 275, 276, 17, 147, 148, 149, 15, 150, 57, 191, 192, 193, 194, 16, 195, 196, 197, 198, 199, 323, 324, 325, 326, 272, 190, 200, 201, 202, 203, 204, 205, 206, 207, 208, 209, 210, 211, 212, 213, 214, 215, 31, 327, 328, 329, 241, 330, 258, 259, 902, 903, 904, 905, 906, 933, 934, 935, 948, 949, 950, 951, 952, 953, 954, 946, 947] (by decide +kernel) (by decide +kernel)) (goodIn_sub (fun _ h => List.mem_append_right _ h) (by decide +kernel))
set_option maxRecDepth 20000 in
theorem gL_law_L_applies : GoodIn wsL_law (va_wsS RL 154 yL_applies wsL_applies) := goodIn_app (goodIn_of _ (by decide +kernel)) ggL_law_L_applies
