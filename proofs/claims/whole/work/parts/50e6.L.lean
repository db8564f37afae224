set_option maxRecDepth 20000 in
theorem ggL_law_L_write : GoodIn wsL_law wsL_write := goodIn_ca (goodIn_ca (goodIn_r _ [778, 491, 492, 779, 780, 781, 2, 782, 505, 506, 21, 666, 667, 668, 669, 497, 498, 29, 126, 783, 784, 785, 20, 786, 331, 39, 817, 818, 819, 820, 821, 866, 867, 868, 869, 870, 871, 872, 873, 874, 875, 876, 877, 860, 861, 862] (by decide +kernel) (by decide +kernel)) (goodIn_sub (fun _ h => List.mem_append_left _ (List.mem_append_right _ h)) (by decide +kernel))) (goodIn_sub (fun _ h => List.mem_append_left _ (List.mem_append_left _ (List.mem_append_right _ h))) (by decide +kernel))
set_option maxRecDepth 20000 in
theorem gL_law_L_write : GoodIn wsL_law (va_wsS RL 120 yL_write wsL_write) := goodIn_app (goodIn_of _ (by decide +kernel)) ggL_law_L_write
set_option maxRecDepth 20000 in
theorem ggL_law_X7_write_wsX7_write_r1 : GoodIn wsL_law wsX7_write_r1 := goodIn_r _ [378, 120, 791, 106, 792, 793, 794, 5, 795, 87, 374, 88, 91, 524, 92, 445, 95, 96, 97, 98, 99, 100, 796, 797] (by decide +kernel) (by decide +kernel)
set_option maxRecDepth 20000 in
theorem ggL_law_X7_write_wsX7_write_r2 : GoodIn wsL_law wsX7_write_r2 := goodIn_r _ [798, 799, 396, 397, 398, 399, 400, 401, 402, 403, 404, 405, 406, 800, 801, 802, 803, 804, 805, 806, 807, 90, 89, 808] (by decide +kernel) (by decide +kernel)
set_option maxRecDepth 20000 in
theorem ggL_law_X7_write_wsX7_write_r3 : GoodIn wsL_law wsX7_write_r3 := goodIn_r _ [809, 810, 811, 812, 813, 814, 815, 816, 94] (by decide +kernel) (by decide +kernel)
set_option maxRecDepth 20000 in
theorem ggL_law_X7_write_wsX70 : GoodIn wsL_law wsX70 := goodIn_r _ [822, 823, 824, 825, 826, 827, 828, 829, 830, 831, 832, 833, 834, 835, 836, 837, 838, 839, 840, 841, 842, 843, 844, 845, 846, 847, 848, 849, 850, 851, 852, 853, 854] (by decide +kernel) (by decide +kernel)
set_option maxRecDepth 20000 in
theorem ggL_law_X7_write_c : GoodIn wsL_law [.code yX7_write cX7_write 2 (some .int)] := goodIn_r _ [790] (by decide +kernel) (by decide +kernel)
set_option maxRecDepth 20000 in
theorem ggL_law_X7_write : GoodIn wsL_law wsX7_write := goodIn_app ggL_law_X7_write_c (goodIn_app (goodIn_app ggL_law_X7_write_wsX7_write_r1 (goodIn_app ggL_law_X7_write_wsX7_write_r2 ggL_law_X7_write_wsX7_write_r3)) ggL_law_X7_write_wsX70)
set_option maxRecDepth 20000 in
theorem gL_law_X7_write : GoodIn wsL_law (wsV RL 122 RX7 yX7_write wsX7_write) := goodIn_app (goodIn_of _ (by decide +kernel)) ggL_law_X7_write
