set_option maxRecDepth 20000 in
theorem ggL_law_X7_init : GoodIn wsL_law wsX7_init := goodIn_r _ [5, 6, 7, 8, 9, 10, 11, 12, 13, 14, 15, 16, 17, 18, 19, 20, 21, 22, 23, 24, 25, 26, 27, 28, 29, 30, 31, 32, 33, 34, 35, 36, 37, 38, 39, 40, 41, 42, 43, 44, 45, 46, 47, 48, 49, 50, 51, 52, 53, 54, 55, 56, 57, 58, 59, 60, 61, 62, 63, 64, 65, 66, 67, 68, 69, 70, 71, 72, 73, 74, 75, 76, 77, 78, 79, 80, 81, 82, 83, 84, 85, 86, 87, 88, 89, 90, 91, 92, 93, 94, 95, 96, 97, 98, 99, 100, 428, 429, 430, 431, 432, 433, 420, 421, 422, 423, 424, 425, 426, 427, 434, 435, 436, 437, 438, 439, 440, 441, 442, 443, 444, 445, 446, 447, 448, 449, 450, 451, 452] (by decide +kernel) (by decide +kernel)
set_option maxRecDepth 20000 in
theorem gL_law_X7_init : GoodIn wsL_law (wsX7_init) := ggL_law_X7_init
set_option maxRecDepth 20000 in
theorem ggL_law_L_cell : GoodIn wsL_law wsL_cell := goodIn_r _ [104, 105] (by decide +kernel) (by decide +kernel)
set_option maxRecDepth 20000 in
theorem gL_law_L_cell : GoodIn wsL_law (va_wsS RL 12 yL_cell wsL_cell) := goodIn_app (goodIn_of _ (by decide +kernel)) ggL_law_L_cell
set_option maxRecDepth 20000 in
theorem ggL_law_L_below : GoodIn wsL_law wsL_below := goodIn_r _ [108, 109] (by decide +kernel) (by decide +kernel)
set_option maxRecDepth 20000 in
theorem gL_law_L_below : GoodIn wsL_law (va_wsS RL 18 yL_below wsL_below) := goodIn_app (goodIn_of _ (by decide +kernel)) ggL_law_L_below
set_option maxRecDepth 20000 in
theorem ggL_law_X7_procedure : GoodIn wsL_law wsX7_procedure := goodIn_ca (goodIn_ca (goodIn_ca (goodIn_r _ [113, 114, 115, 20, 116, 117, 2, 118, 119, 120, 121, 122, 123, 124, 125, 126, 127, 128, 19, 129, 71, 69, 70, 130, 62, 63, 40, 64, 52, 420, 421, 422, 423, 424, 425, 426, 427, 436, 437, 438, 452] (by decide +kernel) (by decide +kernel)) (goodIn_sub (fun _ h => List.mem_append_left _ (List.mem_append_left _ (List.mem_append_right _ h))) (by decide +kernel))) (goodIn_sub (fun _ h => List.mem_append_left _ (List.mem_append_right _ h)) (by decide +kernel))) (goodIn_sub (fun _ h => List.mem_append_right _ h) (by decide +kernel))
set_option maxRecDepth 20000 in
theorem gL_law_X7_procedure : GoodIn wsL_law (wsV RL 22 RX7 yX7_procedure wsX7_procedure) := goodIn_app (goodIn_of _ (by decide +kernel)) ggL_law_X7_procedure
set_option maxRecDepth 20000 in
theorem ggL_law_X7_amend : GoodIn wsL_law wsX7_amend := goodIn_ca (goodIn_ca (goodIn_r _ [134, 114, 115, 33, 24, 135, 136, 137, 138, 139, 140, 141, 2, 142, 119, 120, 20, 143, 144, 145, 146, 12, 147, 148, 149, 150, 16, 151, 152, 153, 40, 154, 52, 155, 156, 157, 158, 159, 160, 11, 161, 45, 44, 162, 163, 164, 165, 166, 167, 168, 169, 170, 171, 172, 173, 174, 175, 176, 177, 23, 178, 77, 80, 78, 79, 179, 62, 63, 64, 420, 421, 422, 423, 424, 425, 426, 427, 439, 440, 441, 442, 436, 437, 438, 428, 429, 430, 431, 432, 433, 434, 435, 452] (by decide +kernel) (by decide +kernel)) (goodIn_sub (fun _ h => List.mem_append_left _ (List.mem_append_left _ (List.mem_append_right _ h))) (by decide +kernel))) (goodIn_sub (fun _ h => List.mem_append_left _ (List.mem_append_right _ h)) (by decide +kernel))
set_option maxRecDepth 20000 in
theorem gL_law_X7_amend : GoodIn wsL_law (wsV RL 25 RX7 yX7_amend wsX7_amend) := goodIn_app (goodIn_of _ (by decide +kernel)) ggL_law_X7_amend
set_option maxRecDepth 20000 in
theorem ggL_law_X7_check : GoodIn wsL_law wsX7_check := goodIn_ca (goodIn_ca (goodIn_r _ [183, 33, 184, 185, 137, 186, 16, 116, 117, 2, 118, 119, 120, 121, 122, 123, 124, 125, 187, 62, 63, 40, 64, 52, 420, 421, 422, 423, 424, 425, 426, 427, 434, 435, 452] (by decide +kernel) (by decide +kernel)) (goodIn_sub (fun _ h => List.mem_append_left _ (List.mem_append_right _ h)) (by decide +kernel))) (goodIn_sub (fun _ h => List.mem_append_right _ h) (by decide +kernel))
set_option maxRecDepth 20000 in
theorem gL_law_X7_check : GoodIn wsL_law (wsV RL 29 RX7 yX7_check wsX7_check) := goodIn_app (goodIn_of _ (by decide +kernel)) ggL_law_X7_check
