set_option maxRecDepth 20000 in
theorem gq_X7_digest_c : GoodIn wsL_law [Cond.code yX7_digest cX7_digest 5 (some .long)] := goodIn_r _ [894] (by decide +kernel) (by decide +kernel)
set_option maxRecDepth 20000 in
theorem gq_X7_digest_r1 : GoodIn wsL_law wsX7_digest_r1 := goodIn_r _ [895, 896, 17, 25, 38, 33, 897, 786, 787, 2, 788, 37, 21, 29, 39, 150, 151, 152, 153, 154, 276, 277, 278, 45] (by decide +kernel) (by decide +kernel)
set_option maxRecDepth 20000 in
theorem gq_X7_digest_r2 : GoodIn wsL_law wsX7_digest_r2 := goodIn_r _ [279, 57, 789, 790, 791, 32, 792, 97, 398, 399, 400, 401, 91, 94, 95, 96, 402, 793, 794, 795, 20, 796, 797, 384] (by decide +kernel) (by decide +kernel)
set_option maxRecDepth 20000 in
theorem gq_X7_digest_r3 : GoodIn wsL_law wsX7_digest_r3 := goodIn_r _ [385, 386, 64, 387, 375, 376, 377, 378, 379, 380, 381, 382, 383, 388, 389, 390, 28, 391, 85, 82, 83, 84, 392, 393] (by decide +kernel) (by decide +kernel)
set_option maxRecDepth 20000 in
theorem gq_X7_digest_r4 : GoodIn wsL_law wsX7_digest_r4 := goodIn_r _ [394, 395, 396, 92, 93, 397, 224, 225, 226, 403, 404, 405, 406, 269, 407, 408, 409, 410, 411, 412, 413, 414, 415, 416] (by decide +kernel) (by decide +kernel)
set_option maxRecDepth 20000 in
theorem gq_X7_digest_r5 : GoodIn wsL_law wsX7_digest_r5 := goodIn_r _ [16, 417, 50, 49, 418, 419, 420, 421, 422, 423, 424, 425, 426, 427, 428, 429, 430, 898, 655, 656, 657, 270, 271, 272] (by decide +kernel) (by decide +kernel)
set_option maxRecDepth 20000 in
theorem gq_X7_digest_r6 : GoodIn wsL_law wsX7_digest_r6 := goodIn_r _ [273, 274, 275, 899, 672, 673, 674, 514, 515, 516, 517, 155, 156, 157, 675, 676, 677, 900, 722, 723, 724, 725, 726, 727] (by decide +kernel) (by decide +kernel)
set_option maxRecDepth 20000 in
theorem gq_X7_digest_r7 : GoodIn wsL_law wsX7_digest_r7 := goodIn_r _ [901, 711, 712, 713, 902, 696, 697, 698, 903, 865, 866, 867, 904, 880, 881, 882, 905, 736, 737, 738, 610, 611, 612, 613] (by decide +kernel) (by decide +kernel)
set_option maxRecDepth 20000 in
theorem gq_X7_digest_r8 : GoodIn wsL_law wsX7_digest_r8 := goodIn_r _ [739, 906, 771, 772, 773, 630, 631, 632, 755, 756, 757, 758, 907, 752, 753, 754] (by decide +kernel) (by decide +kernel)
set_option maxRecDepth 20000 in
theorem gq_X7_digest_wsX70 : GoodIn wsL_law wsX70 := goodIn_r _ [917, 918, 919, 920, 921, 922, 923, 924] (by decide +kernel) (by decide +kernel)
set_option maxRecDepth 20000 in
theorem gq_X7_digest_wsX40 : GoodIn wsL_law wsX40 := goodIn_r _ [936, 937, 938, 939, 940, 941] (by decide +kernel) (by decide +kernel)
set_option maxRecDepth 20000 in
theorem gq_X7_digest_wsX50 : GoodIn wsL_law wsX50 := goodIn_r _ [944, 945, 946] (by decide +kernel) (by decide +kernel)
set_option maxRecDepth 20000 in
theorem gq_X7_digest_wsX30 : GoodIn wsL_law wsX30 := goodIn_r _ [951, 952, 953, 954, 955, 956, 957] (by decide +kernel) (by decide +kernel)
set_option maxRecDepth 20000 in
theorem gq_X7_digest_wsX20 : GoodIn wsL_law wsX20 := goodIn_r _ [958, 959] (by decide +kernel) (by decide +kernel)
set_option maxRecDepth 20000 in
theorem gq_X7_digest_wsX00 : GoodIn wsL_law wsX00 := goodIn_r _ [942, 943] (by decide +kernel) (by decide +kernel)
set_option maxRecDepth 20000 in
theorem gq_X7_digest_wsX10 : GoodIn wsL_law wsX10 := goodIn_r _ [947, 948, 949, 950] (by decide +kernel) (by decide +kernel)
set_option maxRecDepth 20000 in
theorem gq_X7_digest_wsX60 : GoodIn wsL_law wsX60 := goodIn_r _ [960] (by decide +kernel) (by decide +kernel)
set_option maxRecDepth 20000 in
theorem ggL_law_X7_digest : GoodIn wsL_law wsX7_digest := goodIn_app (a := [Cond.code yX7_digest cX7_digest 5 (some .long)]) gq_X7_digest_c (goodIn_app (goodIn_app (goodIn_app (goodIn_app (goodIn_app (goodIn_app (goodIn_app (goodIn_app (goodIn_app (goodIn_app (goodIn_app gq_X7_digest_r1 (goodIn_app gq_X7_digest_r2 (goodIn_app gq_X7_digest_r3 (goodIn_app gq_X7_digest_r4 (goodIn_app gq_X7_digest_r5 (goodIn_app gq_X7_digest_r6 (goodIn_app gq_X7_digest_r7 gq_X7_digest_r8))))))) gq_X7_digest_wsX70) gq_X7_digest_wsX40) gq_X7_digest_wsX50) gq_X7_digest_wsX30) gq_X7_digest_wsX20) gq_X7_digest_wsX00) gq_X7_digest_wsX10) gq_X7_digest_wsX60) (goodIn_sub (fun _ h => List.mem_append_left _ (List.mem_append_right _ h)) (by decide +kernel))) (goodIn_sub (fun _ h => List.mem_append_right _ h) (by decide +kernel)))
set_option maxRecDepth 20000 in
theorem gL_law_X7_digest : GoodIn wsL_law (wsV RL 199 RX7 yX7_digest wsX7_digest) := goodIn_app (goodIn_of _ (by decide +kernel)) ggL_law_X7_digest
set_option maxRecDepth 20000 in
theorem gq_X11_digest_c : GoodIn wsL_law [Cond.code yX11_digest cX11_digest 5 (some .long)] := goodIn_r _ [911] (by decide +kernel) (by decide +kernel)
set_option maxRecDepth 20000 in
theorem gq_X11_digest_r1 : GoodIn wsL_law wsX11_digest_r1 := goodIn_r _ [186, 912, 113, 116, 287, 451, 117, 802, 803, 804, 5, 805, 119, 118, 115, 56, 527, 442, 191, 192, 193, 112, 194, 195] (by decide +kernel) (by decide +kernel)
set_option maxRecDepth 20000 in
theorem gq_X11_digest_r2 : GoodIn wsL_law wsX11_digest_r2 := goodIn_r _ [472, 473, 474, 475, 468, 469, 476, 477, 470, 294, 295, 296, 297, 298, 299, 300, 301, 302, 303, 304, 305, 306, 307, 308] (by decide +kernel) (by decide +kernel)
set_option maxRecDepth 20000 in
theorem gq_X11_digest_r3 : GoodIn wsL_law wsX11_digest_r3 := goodIn_r _ [309, 124, 453, 454, 455, 456, 443, 444, 445, 446, 447, 448, 449, 450, 452, 457, 458, 459, 358, 460, 364, 461, 462, 463] (by decide +kernel) (by decide +kernel)
set_option maxRecDepth 20000 in
theorem gq_X11_digest_r4 : GoodIn wsL_law wsX11_digest_r4 := goodIn_r _ [464, 465, 466, 467, 471, 289, 224, 225, 226, 478, 479, 480, 481, 482, 483, 484, 485, 114, 486, 487, 488, 489, 490, 491] (by decide +kernel) (by decide +kernel)
set_option maxRecDepth 20000 in
theorem gq_X11_digest_r5 : GoodIn wsL_law wsX11_digest_r5 := goodIn_r _ [492, 493, 285, 494, 495, 496, 172, 497, 203, 204, 498, 499, 500, 501, 200, 201, 502, 423, 424, 202, 503, 504, 505, 506] (by decide +kernel) (by decide +kernel)
set_option maxRecDepth 20000 in
theorem gq_X11_digest_r6 : GoodIn wsL_law wsX11_digest_r6 := goodIn_r _ [913, 914, 915, 916, 662, 663, 664, 665, 666, 667, 288, 286, 703, 704, 705, 706, 872, 873, 874, 875, 887, 888, 889, 890] (by decide +kernel) (by decide +kernel)
set_option maxRecDepth 20000 in
theorem gq_X11_digest_r7 : GoodIn wsL_law wsX11_digest_r7 := goodIn_r _ [744, 745, 746, 747, 778, 779, 780, 781, 763, 764, 765, 766, 689, 690, 691] (by decide +kernel) (by decide +kernel)
set_option maxRecDepth 20000 in
theorem gq_X11_digest_wsX110 : GoodIn wsL_law wsX110 := goodIn_r _ [925, 926, 927, 928, 929, 930, 931, 932, 933, 934, 935] (by decide +kernel) (by decide +kernel)
set_option maxRecDepth 20000 in
theorem gq_X11_digest_wsJx4a65c0 : GoodIn wsL_law wsJx4a65c0 := goodIn_r _ [961, 962, 963] (by decide +kernel) (by decide +kernel)
set_option maxRecDepth 20000 in
theorem gq_X11_digest_wsX80 : GoodIn wsL_law wsX80 := goodIn_r _ [972, 973, 974, 975, 976] (by decide +kernel) (by decide +kernel)
set_option maxRecDepth 20000 in
theorem gq_X11_digest_wsX100 : GoodIn wsL_law wsX100 := goodIn_r _ [969, 970, 971] (by decide +kernel) (by decide +kernel)
set_option maxRecDepth 20000 in
theorem gq_X11_digest_wsX90 : GoodIn wsL_law wsX90 := goodIn_r _ [964, 965, 966, 967, 968] (by decide +kernel) (by decide +kernel)
set_option maxRecDepth 20000 in
theorem ggL_law_X11_digest : GoodIn wsL_law wsX11_digest := goodIn_app (a := [Cond.code yX11_digest cX11_digest 5 (some .long)]) gq_X11_digest_c (goodIn_app (goodIn_app (goodIn_app (goodIn_app (goodIn_app (goodIn_app gq_X11_digest_r1 (goodIn_app gq_X11_digest_r2 (goodIn_app gq_X11_digest_r3 (goodIn_app gq_X11_digest_r4 (goodIn_app gq_X11_digest_r5 (goodIn_app gq_X11_digest_r6 gq_X11_digest_r7)))))) gq_X11_digest_wsX110) gq_X11_digest_wsJx4a65c0) gq_X11_digest_wsX80) gq_X11_digest_wsX100) gq_X11_digest_wsX90)
set_option maxRecDepth 20000 in
theorem gL_law_X11_digest : GoodIn wsL_law (wsV RL 203 RX11 yX11_digest wsX11_digest) := goodIn_app (goodIn_of _ (by decide +kernel)) ggL_law_X11_digest
