set_option maxRecDepth 20000 in
theorem ggL_law_X7_read_wsX7_read_r1 : GoodIn wsL_law wsX7_read_r1 := goodIn_r _ [120, 374, 375, 376, 377, 87, 93, 95, 98, 121, 97, 96, 378, 379, 101, 380, 381, 382, 5, 383, 384, 385, 386, 387] (by decide +kernel) (by decide +kernel)
set_option maxRecDepth 20000 in
theorem ggL_law_X7_read_wsX7_read_r2 : GoodIn wsL_law wsX7_read_r2 := goodIn_r _ [388, 389, 390, 391, 392, 393, 394, 395, 86, 396, 397, 398, 399, 400, 401, 402, 403, 404, 405, 406, 407, 408, 409, 410] (by decide +kernel) (by decide +kernel)
set_option maxRecDepth 20000 in
theorem ggL_law_X7_read_wsX7_read_r3 : GoodIn wsL_law wsX7_read_r3 := goodIn_r _ [411, 412, 413, 414, 88, 89, 415, 90, 416, 91, 92, 417, 94, 418, 419, 420, 421, 422, 423, 424, 425, 426, 427, 428] (by decide +kernel) (by decide +kernel)
set_option maxRecDepth 20000 in
theorem ggL_law_X7_read_wsX7_read_r4 : GoodIn wsL_law wsX7_read_r4 := goodIn_r _ [429, 430, 431, 432, 433, 434, 435, 436, 437, 438, 439, 440, 441, 442, 443, 444, 445, 446, 447, 448, 449, 450, 451, 452] (by decide +kernel) (by decide +kernel)
set_option maxRecDepth 20000 in
theorem ggL_law_X7_read_wsX7_read_r5 : GoodIn wsL_law wsX7_read_r5 := goodIn_r _ [453, 454, 455, 456, 457, 458, 459, 460, 461, 462, 463, 464, 465, 466, 467, 468, 469, 470, 471, 472, 473, 474, 475, 476] (by decide +kernel) (by decide +kernel)
set_option maxRecDepth 20000 in
theorem ggL_law_X7_read_wsX7_read_r6 : GoodIn wsL_law wsX7_read_r6 := goodIn_r _ [477, 478, 99, 100, 479, 480, 481, 482, 483, 484, 485, 486] (by decide +kernel) (by decide +kernel)
set_option maxRecDepth 20000 in
theorem ggL_law_X7_read_wsX70 : GoodIn wsL_law wsX70 := goodIn_r _ [822, 823, 824, 825, 826, 827, 828, 829, 830, 831, 832, 833, 834, 835, 836, 837, 838, 839, 840, 841, 842, 843, 844, 845, 846, 847, 848, 849, 850, 851, 852, 853, 854] (by decide +kernel) (by decide +kernel)
set_option maxRecDepth 20000 in
theorem ggL_law_X7_read_c : GoodIn wsL_law [.code yX7_read cX7_read 3 (some .int)] := goodIn_r _ [373] (by decide +kernel) (by decide +kernel)
set_option maxRecDepth 20000 in
theorem ggL_law_X7_read : GoodIn wsL_law wsX7_read := goodIn_app ggL_law_X7_read_c (goodIn_app (goodIn_app ggL_law_X7_read_wsX7_read_r1 (goodIn_app ggL_law_X7_read_wsX7_read_r2 (goodIn_app ggL_law_X7_read_wsX7_read_r3 (goodIn_app ggL_law_X7_read_wsX7_read_r4 (goodIn_app ggL_law_X7_read_wsX7_read_r5 ggL_law_X7_read_wsX7_read_r6))))) ggL_law_X7_read_wsX70)
set_option maxRecDepth 20000 in
theorem gL_law_X7_read : GoodIn wsL_law (wsV RL 68 RX7 yX7_read wsX7_read) := goodIn_app (goodIn_of _ (by decide +kernel)) ggL_law_X7_read
set_option maxRecDepth 20000 in
theorem ggL_law_L_thick : GoodIn wsL_law wsL_thick := goodIn_ca (goodIn_ca (goodIn_r _ [490, 491, 492, 493, 494, 495, 2, 496, 497, 498, 29, 499, 500, 501, 502, 503, 504, 505, 506, 126, 507, 508, 509, 510, 511, 512, 28, 513, 54, 53, 514, 515, 516, 517, 518, 519, 817, 818, 819, 820, 821, 866, 867, 868, 869, 870, 871, 872, 873, 874, 875, 876, 877] (by decide +kernel) (by decide +kernel)) (goodIn_sub (fun _ h => List.mem_append_left _ (List.mem_append_left _ (List.mem_append_right _ h))) (by decide +kernel))) (goodIn_sub (fun _ h => List.mem_append_left _ (List.mem_append_right _ h)) (by decide +kernel))
set_option maxRecDepth 20000 in
theorem gL_law_L_thick : GoodIn wsL_law (va_wsS RL 69 yL_thick wsL_thick) := goodIn_app (goodIn_of _ (by decide +kernel)) ggL_law_L_thick
set_option maxRecDepth 20000 in
theorem ggL_law_X7_thick : GoodIn wsL_law wsX7_thick := goodIn_r _ [523, 88, 374, 120, 524, 525, 526, 527, 5, 528, 378, 87, 529, 530, 531, 532, 533, 534, 535, 91, 92, 536, 537, 538, 539, 540, 541, 822, 823, 824, 825, 826, 827, 828, 829, 830, 831, 832, 833, 834, 835, 836, 837, 838, 839, 840, 841, 842, 843, 844, 845, 846, 847, 848, 849, 850, 851, 852, 853, 854] (by decide +kernel) (by decide +kernel)
set_option maxRecDepth 20000 in
theorem gL_law_X7_thick : GoodIn wsL_law (wsV RL 74 RX7 yX7_thick wsX7_thick) := goodIn_app (goodIn_of _ (by decide +kernel)) ggL_law_X7_thick
set_option maxRecDepth 20000 in
theorem ggL_law_X7_thrown : GoodIn wsL_law wsX7_thrown := goodIn_r _ [545, 120, 822, 823, 824, 825, 826, 827, 828, 829, 830, 831, 832, 833, 834, 835, 836, 837, 838, 839, 840, 841, 842, 843, 844, 845, 846, 847, 848, 849, 850, 851, 852, 853, 854] (by decide +kernel) (by decide +kernel)
set_option maxRecDepth 20000 in
theorem gL_law_X7_thrown : GoodIn wsL_law (wsV RL 75 RX7 yX7_thrown wsX7_thrown) := goodIn_app (goodIn_of _ (by decide +kernel)) ggL_law_X7_thrown
