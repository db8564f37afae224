set_option maxRecDepth 20000 in
theorem ggL_law_X6_init_wsX6_init_r1 : GoodIn wsL_law wsX6_init_r1 := goodIn_r _ [11, 12, 13, 14, 15, 16, 17, 18, 19, 20, 21, 22, 23, 24, 25, 26, 27, 28, 29, 30, 31, 32, 33, 34] (by decide +kernel) (by decide +kernel)
set_option maxRecDepth 20000 in
theorem ggL_law_X6_init_wsX6_init_r2 : GoodIn wsL_law wsX6_init_r2 := goodIn_r _ [35, 36, 37, 38, 39, 40, 41, 42, 43, 44, 6, 45, 46, 47, 48, 49, 50, 51, 52, 53, 54, 55, 56, 57] (by decide +kernel) (by decide +kernel)
set_option maxRecDepth 20000 in
theorem ggL_law_X6_init_wsX6_init_r3 : GoodIn wsL_law wsX6_init_r3 := goodIn_r _ [58, 59, 60, 61, 62, 63, 64, 65, 66, 67, 68, 69, 70, 71, 72, 73, 74, 75, 76, 77, 78, 79, 80, 81] (by decide +kernel) (by decide +kernel)
set_option maxRecDepth 20000 in
theorem ggL_law_X6_init_wsX40 : GoodIn wsL_law wsX40 := goodIn_r _ [855, 856, 857, 858, 859] (by decide +kernel) (by decide +kernel)
set_option maxRecDepth 20000 in
theorem ggL_law_X6_init_wsX60 : GoodIn wsL_law wsX60 := goodIn_r _ [817, 818, 819, 820, 821] (by decide +kernel) (by decide +kernel)
set_option maxRecDepth 20000 in
theorem ggL_law_X6_init_wsX50 : GoodIn wsL_law wsX50 := goodIn_r _ [860, 861, 862] (by decide +kernel) (by decide +kernel)
set_option maxRecDepth 20000 in
theorem ggL_law_X6_init_wsX10 : GoodIn wsL_law wsX10 := goodIn_r _ [863, 864, 865] (by decide +kernel) (by decide +kernel)
set_option maxRecDepth 20000 in
theorem ggL_law_X6_init_wsX00 : GoodIn wsL_law wsX00 := goodIn_r _ [866, 867, 868, 869, 870, 871, 872, 873, 874, 875, 876, 877] (by decide +kernel) (by decide +kernel)
set_option maxRecDepth 20000 in
theorem ggL_law_X6_init_wsX20 : GoodIn wsL_law wsX20 := goodIn_r _ [878, 879] (by decide +kernel) (by decide +kernel)
set_option maxRecDepth 20000 in
theorem ggL_law_X6_init_wsX30 : GoodIn wsL_law wsX30 := goodIn_r _ [880, 881, 882] (by decide +kernel) (by decide +kernel)
set_option maxRecDepth 20000 in
theorem ggL_law_X6_init_c : GoodIn wsL_law [.code yX6_init cX6_init 1 none] := goodIn_r _ [10] (by decide +kernel) (by decide +kernel)
set_option maxRecDepth 20000 in
theorem ggL_law_X6_init : GoodIn wsL_law wsX6_init := goodIn_app ggL_law_X6_init_c (goodIn_app (goodIn_app (goodIn_app (goodIn_app (goodIn_app (goodIn_app (goodIn_app (goodIn_app ggL_law_X6_init_wsX6_init_r1 (goodIn_app ggL_law_X6_init_wsX6_init_r2 ggL_law_X6_init_wsX6_init_r3)) ggL_law_X6_init_wsX40) ggL_law_X6_init_wsX60) ggL_law_X6_init_wsX50) ggL_law_X6_init_wsX10) ggL_law_X6_init_wsX00) ggL_law_X6_init_wsX20) ggL_law_X6_init_wsX30)
set_option maxRecDepth 20000 in
theorem gL_law_X6_init : GoodIn wsL_law (wsX6_init) := ggL_law_X6_init
set_option maxRecDepth 20000 in
theorem ggL_law_X7_init : GoodIn wsL_law wsX7_init := goodIn_r _ [84, 85, 12, 13, 50, 86, 87, 88, 6, 89, 90, 91, 92, 93, 94, 95, 96, 97, 98, 99, 100, 101, 102, 103, 104, 105, 106, 822, 823, 824, 825, 826, 827, 828, 829, 830, 831, 832, 833, 834, 835, 836, 837, 838, 839, 840, 841, 842, 843, 844, 845, 846, 847, 848, 849, 850, 851, 852, 853, 854] (by decide +kernel) (by decide +kernel)
set_option maxRecDepth 20000 in
theorem gL_law_X7_init : GoodIn wsL_law (wsX7_init) := ggL_law_X7_init
set_option maxRecDepth 20000 in
theorem ggL_law_X6_unit : GoodIn wsL_law wsX6_unit := goodIn_r _ [110, 17, 111, 112, 113, 16, 114, 115, 35, 817, 818, 819, 820, 821, 855, 856, 857, 858, 859] (by decide +kernel) (by decide +kernel)
set_option maxRecDepth 20000 in
theorem gL_law_X6_unit : GoodIn wsL_law (wsV RL 60 RX6 yX6_unit wsX6_unit) := goodIn_app (goodIn_of _ (by decide +kernel)) ggL_law_X6_unit
