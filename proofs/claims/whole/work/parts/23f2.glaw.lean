set_option maxRecDepth 20000 in
theorem ggL_law_X11_cancel : GoodIn wsL_law wsX11_cancel := goodIn_r _ [622, 117, 468, 469, 287, 191, 192, 193, 112, 194, 195, 176, 177, 5, 178, 182, 183, 184, 185, 186, 187, 188, 189, 190, 294, 295, 296, 297, 298, 299, 300, 301, 302, 303, 304, 305, 306, 307, 308, 309, 124, 561, 562, 563, 564, 565, 566, 567, 568, 569, 570, 571, 572, 573, 574, 575, 12, 13, 576, 577, 578, 579, 580, 205, 206, 207, 208, 209, 210, 211, 212, 213, 214, 215, 216, 217, 218, 219, 220, 221, 222, 123, 223, 224, 225, 226, 227, 228, 229, 230, 231, 232, 233, 234, 235, 236, 237, 238, 239, 240, 241, 242, 243, 244, 245, 246, 247, 248, 249, 250, 251, 252, 253, 254, 255, 256, 925, 926, 927, 928, 929, 930, 931, 932, 933, 934, 935, 972, 973, 974, 975, 976, 961, 962, 963] (by decide +kernel) (by decide +kernel)
set_option maxRecDepth 20000 in
theorem gL_law_X11_cancel : GoodIn wsL_law (wsV RL 149 RX11 yX11_cancel wsX11_cancel) := goodIn_app (goodIn_of _ (by decide +kernel)) ggL_law_X11_cancel
set_option maxRecDepth 20000 in
theorem ggL_law_L_load : GoodIn wsL_law wsL_load := goodIn_ca (goodIn_r _ [625, 264, 626, 627, 628, 2, 629, 37, 38, 630, 631, 632, 274, 275, 276, 277, 278, 45, 279, 57, 280, 67, 68, 69, 917, 918, 919, 920, 921, 922, 923, 924, 958, 959, 960] (by decide +kernel) (by decide +kernel)) (goodIn_sub (fun _ h => List.mem_append_right _ h) (by decide +kernel))
set_option maxRecDepth 20000 in
theorem gL_law_L_load : GoodIn wsL_law (va_wsS RL 150 yL_load wsL_load) := goodIn_app (goodIn_of _ (by decide +kernel)) ggL_law_L_load
set_option maxRecDepth 20000 in
theorem ggL_law_X11_load : GoodIn wsL_law wsX11_load := goodIn_r _ [636, 118, 287, 637, 638, 5, 639, 176, 177, 178, 182, 183, 184, 185, 186, 187, 188, 189, 190, 925, 926, 927, 928, 929, 930, 931, 932, 933, 934, 935] (by decide +kernel) (by decide +kernel)
set_option maxRecDepth 20000 in
theorem gL_law_X11_load : GoodIn wsL_law (wsV RL 152 RX11 yX11_load wsX11_load) := goodIn_app (goodIn_of _ (by decide +kernel)) ggL_law_X11_load
set_option maxRecDepth 20000 in
theorem ggL_law_L_read : GoodIn wsL_law wsL_read := goodIn_ca (goodIn_r _ [642, 264, 643, 644, 645, 2, 646, 37, 33, 630, 631, 632, 274, 275, 276, 277, 278, 45, 279, 57, 280, 67, 68, 69, 917, 918, 919, 920, 921, 922, 923, 924, 958, 959, 951, 952, 953, 954, 955, 956, 957, 960] (by decide +kernel) (by decide +kernel)) (goodIn_sub (fun _ h => List.mem_append_right _ h) (by decide +kernel))
set_option maxRecDepth 20000 in
theorem gL_law_L_read : GoodIn wsL_law (va_wsS RL 153 yL_read wsL_read) := goodIn_app (goodIn_of _ (by decide +kernel)) ggL_law_L_read
set_option maxRecDepth 20000 in
theorem ggL_law_X11_read : GoodIn wsL_law wsX11_read := goodIn_r _ [650, 117, 119, 637, 638, 5, 639, 176, 177, 178, 182, 183, 184, 185, 186, 187, 188, 189, 190, 191, 192, 193, 112, 194, 195, 925, 926, 927, 928, 929, 930, 931, 932, 933, 934, 935, 961, 962, 963] (by decide +kernel) (by decide +kernel)
set_option maxRecDepth 20000 in
theorem gL_law_X11_read : GoodIn wsL_law (wsV RL 155 RX11 yX11_read wsX11_read) := goodIn_app (goodIn_of _ (by decide +kernel)) ggL_law_X11_read
set_option maxRecDepth 20000 in
theorem ggL_law_L_ofObstacle : GoodIn wsL_law wsL_ofObstacle := goodIn_ca (goodIn_ca (goodIn_r _ [653, 264, 139, 654, 655, 656, 2, 657, 17, 270, 271, 272, 273, 274, 275, 150, 151, 152, 153, 154, 276, 277, 278, 45, 279, 57, 917, 918, 919, 920, 921, 922, 923, 924, 936, 937, 938, 939, 940, 941, 960] (by decide +kernel) (by decide +kernel)) (goodIn_sub (fun _ h => List.mem_append_right _ h) (by decide +kernel))) (goodIn_sub (fun _ h => List.mem_append_left _ (List.mem_append_right _ h)) (by decide +kernel))
set_option maxRecDepth 20000 in
theorem gL_law_L_ofObstacle : GoodIn wsL_law (va_wsS RL 156 yL_ofObstacle wsL_ofObstacle) := goodIn_app (goodIn_of _ (by decide +kernel)) ggL_law_L_ofObstacle
set_option maxRecDepth 20000 in
theorem ggL_law_X11_ofObstacle : GoodIn wsL_law wsX11_ofObstacle := goodIn_r _ [661, 290, 291, 292, 5, 293, 113, 191, 192, 193, 112, 194, 195, 176, 177, 178, 182, 183, 184, 185, 186, 187, 188, 189, 190, 662, 663, 664, 665, 285, 488, 666, 667, 288, 286, 294, 295, 296, 297, 298, 299, 300, 301, 302, 303, 304, 305, 306, 307, 308, 309, 124, 925, 926, 927, 928, 929, 930, 931, 932, 933, 934, 935, 961, 962, 963, 964, 965, 966, 967, 968] (by decide +kernel) (by decide +kernel)
set_option maxRecDepth 20000 in
theorem gL_law_X11_ofObstacle : GoodIn wsL_law (wsV RL 158 RX11 yX11_ofObstacle wsX11_ofObstacle) := goodIn_app (goodIn_of _ (by decide +kernel)) ggL_law_X11_ofObstacle
set_option maxRecDepth 20000 in
theorem ggL_law_L_demanded : GoodIn wsL_law wsL_demanded := goodIn_ca (goodIn_ca (goodIn_r _ [670, 264, 139, 671, 672, 673, 2, 674, 514, 515, 516, 517, 274, 275, 25, 155, 156, 157, 150, 151, 152, 153, 154, 675, 676, 677, 403, 404, 405, 406, 17, 269, 224, 225, 226, 407, 408, 409, 410, 21, 276, 277, 278, 45, 279, 57, 411, 412, 413, 414, 415, 416, 16, 417, 50, 49, 418, 419, 420, 421, 422, 423, 424, 425, 426, 427, 428, 429, 430, 917, 918, 919, 920, 921, 922, 923, 924, 944, 945, 946, 936, 937, 938, 939, 940, 941, 942, 943, 960] (by decide +kernel) (by decide +kernel)) (goodIn_sub (fun _ h => List.mem_append_right _ h) (by decide +kernel))) (goodIn_sub (fun _ h => List.mem_append_left _ (List.mem_append_right _ h)) (by decide +kernel))
set_option maxRecDepth 20000 in
theorem gL_law_L_demanded : GoodIn wsL_law (va_wsS RL 159 yL_demanded wsL_demanded) := goodIn_app (goodIn_of _ (by decide +kernel)) ggL_law_L_demanded
set_option maxRecDepth 20000 in
theorem ggL_law_X11_demanded : GoodIn wsL_law wsX11_demanded := goodIn_r _ [681, 682, 683, 684, 5, 685, 529, 530, 531, 532, 116, 191, 192, 193, 112, 194, 195, 176, 177, 178, 182, 183, 184, 185, 186, 187, 188, 189, 190, 179, 180, 181, 686, 687, 688, 478, 479, 480, 481, 482, 483, 484, 485, 451, 114, 452, 486, 487, 113, 488, 489, 289, 224, 225, 226, 294, 295, 296, 297, 298, 299, 300, 301, 302, 303, 304, 305, 306, 307, 308, 309, 124, 490, 491, 492, 493, 285, 494, 495, 496, 172, 497, 203, 204, 498, 499, 500, 501, 200, 201, 502, 423, 424, 202, 503, 504, 505, 506, 689, 690, 691, 925, 926, 927, 928, 929, 930, 931, 932, 933, 934, 935, 961, 962, 963, 969, 970, 971, 964, 965, 966, 967, 968] (by decide +kernel) (by decide +kernel)
set_option maxRecDepth 20000 in
theorem gL_law_X11_demanded : GoodIn wsL_law (wsV RL 161 RX11 yX11_demanded wsX11_demanded) := goodIn_app (goodIn_of _ (by decide +kernel)) ggL_law_X11_demanded
set_option maxRecDepth 20000 in
theorem ggL_law_L_decides : GoodIn wsL_law wsL_decides := goodIn_ca (goodIn_ca (goodIn_r _ [694, 264, 139, 695, 696, 697, 2, 698, 17, 514, 515, 516, 517, 274, 275, 25, 155, 156, 157, 150, 151, 152, 153, 154, 403, 404, 405, 406, 269, 224, 225, 226, 407, 408, 409, 410, 21, 276, 277, 278, 45, 279, 57, 411, 412, 413, 414, 415, 416, 16, 417, 50, 49, 418, 419, 420, 421, 422, 423, 424, 425, 426, 427, 428, 429, 430, 917, 918, 919, 920, 921, 922, 923, 924, 936, 937, 938, 939, 940, 941, 944, 945, 946, 942, 943, 960] (by decide +kernel) (by decide +kernel)) (goodIn_sub (fun _ h => List.mem_append_right _ h) (by decide +kernel))) (goodIn_sub (fun _ h => List.mem_append_left _ (List.mem_append_right _ h)) (by decide +kernel))
set_option maxRecDepth 20000 in
theorem gL_law_L_decides : GoodIn wsL_law (va_wsS RL 162 yL_decides wsL_decides) := goodIn_app (goodIn_of _ (by decide +kernel)) ggL_law_L_decides
set_option maxRecDepth 20000 in
theorem ggL_law_X11_decides : GoodIn wsL_law wsX11_decides := goodIn_r _ [702, 682, 683, 684, 5, 685, 529, 530, 531, 532, 116, 191, 192, 193, 112, 194, 195, 176, 177, 178, 182, 183, 184, 185, 186, 187, 188, 189, 190, 179, 180, 181, 686, 687, 688, 703, 704, 705, 706, 113, 478, 479, 480, 481, 482, 483, 484, 485, 451, 114, 452, 486, 487, 488, 489, 289, 224, 225, 226, 294, 295, 296, 297, 298, 299, 300, 301, 302, 303, 304, 305, 306, 307, 308, 309, 124, 490, 491, 492, 493, 285, 494, 495, 496, 172, 497, 203, 204, 498, 499, 500, 501, 200, 201, 502, 423, 424, 202, 503, 504, 505, 506, 925, 926, 927, 928, 929, 930, 931, 932, 933, 934, 935, 961, 962, 963, 969, 970, 971, 964, 965, 966, 967, 968] (by decide +kernel) (by decide +kernel)
set_option maxRecDepth 20000 in
theorem gL_law_X11_decides : GoodIn wsL_law (wsV RL 164 RX11 yX11_decides wsX11_decides) := goodIn_app (goodIn_of _ (by decide +kernel)) ggL_law_X11_decides
set_option maxRecDepth 20000 in
theorem ggL_law_L_chart : GoodIn wsL_law wsL_chart := goodIn_ca (goodIn_ca (goodIn_r _ [709, 264, 139, 710, 711, 712, 2, 713, 29, 514, 515, 516, 517, 274, 275, 25, 155, 156, 157, 150, 151, 152, 153, 154, 388, 389, 390, 28, 391, 85, 82, 83, 84, 392, 277, 278, 45, 279, 57, 917, 918, 919, 920, 921, 922, 923, 924, 944, 945, 946, 947, 948, 949, 950, 960] (by decide +kernel) (by decide +kernel)) (goodIn_sub (fun _ h => List.mem_append_right _ h) (by decide +kernel))) (goodIn_sub (fun _ h => List.mem_append_left _ (List.mem_append_right _ h)) (by decide +kernel))
set_option maxRecDepth 20000 in
theorem gL_law_L_chart : GoodIn wsL_law (va_wsS RL 165 yL_chart wsL_chart) := goodIn_app (goodIn_of _ (by decide +kernel)) ggL_law_L_chart
