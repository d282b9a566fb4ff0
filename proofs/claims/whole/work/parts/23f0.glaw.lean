set_option maxRecDepth 20000 in
theorem ggL_law_X7_init : GoodIn wsL_law wsX7_init := goodIn_r _ [10, 11, 12, 13, 14, 15, 16, 17, 18, 19, 20, 21, 22, 23, 24, 25, 26, 27, 28, 29, 30, 31, 32, 33, 34, 35, 36, 37, 38, 39, 40, 41, 42, 43, 44, 45, 46, 47, 48, 49, 50, 51, 52, 53, 54, 55, 56, 57, 58, 59, 60, 61, 62, 63, 64, 65, 66, 67, 68, 69, 70, 71, 72, 73, 74, 75, 76, 77, 78, 79, 80, 81, 82, 83, 84, 85, 86, 87, 88, 89, 90, 91, 92, 93, 94, 95, 96, 97, 98, 99, 100, 101, 102, 103, 104, 105, 936, 937, 938, 939, 940, 941, 917, 918, 919, 920, 921, 922, 923, 924, 942, 943, 944, 945, 946, 947, 948, 949, 950, 951, 952, 953, 954, 955, 956, 957, 958, 959, 960] (by decide +kernel) (by decide +kernel)
set_option maxRecDepth 20000 in
theorem gL_law_X7_init : GoodIn wsL_law (wsX7_init) := ggL_law_X7_init
set_option maxRecDepth 20000 in
theorem ggL_law_X11_init : GoodIn wsL_law wsX11_init := goodIn_r _ [108, 109, 12, 13, 110, 111, 112, 113, 56, 114, 115, 116, 117, 118, 119, 120, 121, 122, 123, 124, 125, 126, 127, 128, 129, 130, 131, 132, 133, 134, 961, 962, 963, 925, 926, 927, 928, 929, 930, 931, 932, 933, 934, 935] (by decide +kernel) (by decide +kernel)
set_option maxRecDepth 20000 in
theorem gL_law_X11_init : GoodIn wsL_law (wsX11_init) := ggL_law_X11_init
set_option maxRecDepth 20000 in
theorem ggL_law_L_obstacle : GoodIn wsL_law wsL_obstacle := goodIn_ca (goodIn_ca (goodIn_r _ [138, 139, 140, 141, 142, 143, 2, 144, 145, 146, 17, 147, 148, 149, 150, 151, 152, 153, 154, 155, 156, 157, 158, 159, 160, 161, 162, 163, 16, 164, 51, 46, 47, 48, 49, 50, 165, 67, 68, 45, 69, 57, 917, 918, 919, 920, 921, 922, 923, 924, 936, 937, 938, 939, 940, 941, 960] (by decide +kernel) (by decide +kernel)) (goodIn_sub (fun _ h => List.mem_append_left _ (List.mem_append_left _ (List.mem_append_right _ h))) (by decide +kernel))) (goodIn_sub (fun _ h => List.mem_append_left _ (List.mem_append_right _ h)) (by decide +kernel))
set_option maxRecDepth 20000 in
theorem gL_law_L_obstacle : GoodIn wsL_law (va_wsS RL 106 yL_obstacle wsL_obstacle) := goodIn_app (goodIn_of _ (by decide +kernel)) ggL_law_L_obstacle
set_option maxRecDepth 20000 in
theorem ggL_law_X11_obstacle : GoodIn wsL_law wsX11_obstacle := goodIn_r _ [169, 113, 170, 171, 172, 173, 174, 5, 175, 176, 177, 178, 179, 180, 181, 182, 183, 184, 185, 186, 187, 188, 189, 190, 191, 192, 193, 112, 194, 195, 196, 197, 198, 199, 12, 13, 200, 201, 202, 203, 204, 205, 206, 207, 208, 209, 210, 124, 211, 212, 213, 214, 215, 216, 217, 218, 219, 220, 221, 222, 123, 223, 224, 225, 226, 227, 228, 229, 230, 231, 232, 233, 234, 235, 236, 237, 238, 239, 240, 241, 242, 243, 244, 245, 246, 247, 248, 249, 250, 251, 252, 253, 254, 255, 256, 925, 926, 927, 928, 929, 930, 931, 932, 933, 934, 935, 964, 965, 966, 967, 968, 961, 962, 963] (by decide +kernel) (by decide +kernel)
set_option maxRecDepth 20000 in
theorem gL_law_X11_obstacle : GoodIn wsL_law (wsV RL 111 RX11 yX11_obstacle wsX11_obstacle) := goodIn_app (goodIn_of _ (by decide +kernel)) ggL_law_X11_obstacle
set_option maxRecDepth 20000 in
theorem ggL_law_X11_thrown : GoodIn wsL_law wsX11_thrown := goodIn_r _ [260, 186, 925, 926, 927, 928, 929, 930, 931, 932, 933, 934, 935] (by decide +kernel) (by decide +kernel)
set_option maxRecDepth 20000 in
theorem gL_law_X11_thrown : GoodIn wsL_law (wsV RL 112 RX11 yX11_thrown wsX11_thrown) := goodIn_app (goodIn_of _ (by decide +kernel)) ggL_law_X11_thrown
set_option maxRecDepth 20000 in
theorem ggL_law_L_end : GoodIn wsL_law wsL_end := goodIn_ca (goodIn_ca (goodIn_r _ [263, 264, 140, 265, 266, 267, 2, 268, 145, 146, 17, 38, 269, 224, 225, 226, 270, 271, 272, 273, 274, 275, 276, 277, 278, 45, 279, 57, 280, 67, 68, 69, 917, 918, 919, 920, 921, 922, 923, 924, 936, 937, 938, 939, 940, 941, 960] (by decide +kernel) (by decide +kernel)) (goodIn_sub (fun _ h => List.mem_append_left _ (List.mem_append_left _ (List.mem_append_right _ h))) (by decide +kernel))) (goodIn_sub (fun _ h => List.mem_append_right _ h) (by decide +kernel))
set_option maxRecDepth 20000 in
theorem gL_law_L_end : GoodIn wsL_law (va_wsS RL 116 yL_end wsL_end) := goodIn_app (goodIn_of _ (by decide +kernel)) ggL_law_L_end
set_option maxRecDepth 20000 in
theorem ggL_law_X11_end : GoodIn wsL_law wsX11_end := goodIn_r _ [284, 113, 285, 286, 287, 288, 289, 224, 225, 226, 290, 291, 292, 5, 293, 191, 192, 193, 112, 194, 195, 176, 177, 178, 182, 183, 184, 185, 186, 187, 188, 189, 190, 294, 295, 296, 297, 298, 299, 300, 301, 302, 303, 304, 305, 306, 307, 308, 309, 124, 925, 926, 927, 928, 929, 930, 931, 932, 933, 934, 935, 964, 965, 966, 967, 968, 961, 962, 963] (by decide +kernel) (by decide +kernel)
set_option maxRecDepth 20000 in
theorem gL_law_X11_end : GoodIn wsL_law (wsV RL 119 RX11 yX11_end wsX11_end) := goodIn_app (goodIn_of _ (by decide +kernel)) ggL_law_X11_end
set_option maxRecDepth 20000 in
theorem ggL_law_L_aid : GoodIn wsL_law wsL_aid := goodIn_ca (goodIn_ca (goodIn_r _ [312, 264, 139, 313, 314, 315, 2, 316, 21, 317, 318, 319, 274, 275, 150, 151, 152, 153, 154, 276, 277, 278, 45, 279, 57, 280, 67, 68, 69, 917, 918, 919, 920, 921, 922, 923, 924, 942, 943, 960] (by decide +kernel) (by decide +kernel)) (goodIn_sub (fun _ h => List.mem_append_right _ h) (by decide +kernel))) (goodIn_sub (fun _ h => List.mem_append_left _ (List.mem_append_right _ h)) (by decide +kernel))
set_option maxRecDepth 20000 in
theorem gL_law_L_aid : GoodIn wsL_law (va_wsS RL 120 yL_aid wsL_aid) := goodIn_app (goodIn_of _ (by decide +kernel)) ggL_law_L_aid
set_option maxRecDepth 20000 in
theorem ggL_law_X11_aid : GoodIn wsL_law wsX11_aid := goodIn_r _ [323, 114, 324, 325, 5, 326, 176, 177, 178, 182, 183, 184, 185, 186, 187, 188, 189, 190, 925, 926, 927, 928, 929, 930, 931, 932, 933, 934, 935] (by decide +kernel) (by decide +kernel)
set_option maxRecDepth 20000 in
theorem gL_law_X11_aid : GoodIn wsL_law (wsV RL 123 RX11 yX11_aid wsX11_aid) := goodIn_app (goodIn_of _ (by decide +kernel)) ggL_law_X11_aid
set_option maxRecDepth 20000 in
theorem ggL_law_L_check : GoodIn wsL_law wsL_check := goodIn_ca (goodIn_ca (goodIn_r _ [329, 264, 139, 330, 331, 332, 2, 333, 38, 334, 251, 225, 252, 21, 317, 318, 319, 274, 275, 150, 151, 152, 153, 154, 280, 67, 68, 45, 69, 57, 917, 918, 919, 920, 921, 922, 923, 924, 942, 943, 960] (by decide +kernel) (by decide +kernel)) (goodIn_sub (fun _ h => List.mem_append_right _ h) (by decide +kernel))) (goodIn_sub (fun _ h => List.mem_append_left _ (List.mem_append_right _ h)) (by decide +kernel))
set_option maxRecDepth 20000 in
theorem gL_law_L_check : GoodIn wsL_law (va_wsS RL 124 yL_check wsL_check) := goodIn_app (goodIn_of _ (by decide +kernel)) ggL_law_L_check
set_option maxRecDepth 20000 in
theorem ggL_law_X11_check : GoodIn wsL_law wsX11_check := goodIn_r _ [338, 115, 287, 339, 251, 225, 252, 324, 325, 5, 326, 176, 177, 178, 182, 183, 184, 185, 186, 187, 188, 189, 190, 925, 926, 927, 928, 929, 930, 931, 932, 933, 934, 935] (by decide +kernel) (by decide +kernel)
set_option maxRecDepth 20000 in
theorem gL_law_X11_check : GoodIn wsL_law (wsV RL 126 RX11 yX11_check wsX11_check) := goodIn_app (goodIn_of _ (by decide +kernel)) ggL_law_X11_check
set_option maxRecDepth 20000 in
theorem ggL_law_L_procedure : GoodIn wsL_law wsL_procedure := goodIn_ca (goodIn_ca (goodIn_ca (goodIn_r _ [342, 264, 139, 140, 343, 344, 345, 2, 346, 145, 146, 25, 317, 318, 319, 274, 275, 150, 151, 152, 153, 154, 347, 348, 349, 24, 350, 76, 74, 75, 351, 67, 68, 45, 69, 57, 917, 918, 919, 920, 921, 922, 923, 924, 944, 945, 946, 960] (by decide +kernel) (by decide +kernel)) (goodIn_sub (fun _ h => List.mem_append_left _ (List.mem_append_left _ (List.mem_append_right _ h))) (by decide +kernel))) (goodIn_sub (fun _ h => List.mem_append_right _ h) (by decide +kernel))) (goodIn_sub (fun _ h => List.mem_append_left _ (List.mem_append_right _ h)) (by decide +kernel))
set_option maxRecDepth 20000 in
theorem gL_law_L_procedure : GoodIn wsL_law (va_wsS RL 127 yL_procedure wsL_procedure) := goodIn_app (goodIn_of _ (by decide +kernel)) ggL_law_L_procedure
