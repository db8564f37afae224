set_option maxRecDepth 20000 in
theorem ggL_law_L_kind : GoodIn wsL_law wsL_kind := goodIn_ca (goodIn_r _ [548, 491, 549, 550, 551, 2, 552, 29, 499, 501, 502, 503, 504, 505, 506, 126, 817, 818, 819, 820, 821, 866, 867, 868, 869, 870, 871, 872, 873, 874, 875, 876, 877] (by decide +kernel) (by decide +kernel)) (goodIn_sub (fun _ h => List.mem_append_left _ (List.mem_append_right _ h)) (by decide +kernel))
set_option maxRecDepth 20000 in
theorem gL_law_L_kind : GoodIn wsL_law (va_wsS RL 78 yL_kind wsL_kind) := goodIn_app (goodIn_of _ (by decide +kernel)) ggL_law_L_kind
set_option maxRecDepth 20000 in
theorem ggL_law_X7_kind : GoodIn wsL_law wsX7_kind := goodIn_r _ [556, 120, 88, 374, 525, 526, 527, 5, 528, 378, 87, 822, 823, 824, 825, 826, 827, 828, 829, 830, 831, 832, 833, 834, 835, 836, 837, 838, 839, 840, 841, 842, 843, 844, 845, 846, 847, 848, 849, 850, 851, 852, 853, 854] (by decide +kernel) (by decide +kernel)
set_option maxRecDepth 20000 in
theorem gL_law_X7_kind : GoodIn wsL_law (wsV RL 81 RX7 yX7_kind wsX7_kind) := goodIn_app (goodIn_of _ (by decide +kernel)) ggL_law_X7_kind
set_option maxRecDepth 20000 in
theorem ggL_law_L_via : GoodIn wsL_law wsL_via := goodIn_ca (goodIn_r _ [559, 491, 560, 561, 562, 2, 563, 29, 564, 565, 566, 77, 567, 568, 76, 78, 569, 570, 571, 572, 505, 506, 573, 574, 278, 279, 64, 280, 237, 79, 80, 817, 818, 819, 820, 821, 866, 867, 868, 869, 870, 871, 872, 873, 874, 875, 876, 877, 880, 881, 882] (by decide +kernel) (by decide +kernel)) (goodIn_sub (fun _ h => List.mem_append_left _ (List.mem_append_right _ h)) (by decide +kernel))
set_option maxRecDepth 20000 in
theorem gL_law_L_via : GoodIn wsL_law (va_wsS RL 82 yL_via wsL_via) := goodIn_app (goodIn_of _ (by decide +kernel)) ggL_law_L_via
set_option maxRecDepth 20000 in
theorem ggL_law_X7_via : GoodIn wsL_law wsX7_via := goodIn_r _ [578, 120, 374, 375, 579, 580, 581, 5, 582, 378, 93, 483, 484, 485, 486, 98, 99, 100, 822, 823, 824, 825, 826, 827, 828, 829, 830, 831, 832, 833, 834, 835, 836, 837, 838, 839, 840, 841, 842, 843, 844, 845, 846, 847, 848, 849, 850, 851, 852, 853, 854] (by decide +kernel) (by decide +kernel)
set_option maxRecDepth 20000 in
theorem gL_law_X7_via : GoodIn wsL_law (wsV RL 85 RX7 yX7_via wsX7_via) := goodIn_app (goodIn_of _ (by decide +kernel)) ggL_law_X7_via
set_option maxRecDepth 20000 in
theorem ggL_law_L_pressed : GoodIn wsL_law wsL_pressed := goodIn_ca (goodIn_r _ [585, 491, 586, 587, 588, 2, 589, 505, 506, 29, 590, 591, 592, 593, 594, 595, 596, 597, 60, 598, 599, 600, 601, 602, 70, 145, 603, 604, 605, 64, 606, 79, 80, 817, 818, 819, 820, 821, 866, 867, 868, 869, 870, 871, 872, 873, 874, 875, 876, 877, 878, 879, 880, 881, 882] (by decide +kernel) (by decide +kernel)) (goodIn_sub (fun _ h => List.mem_append_left _ (List.mem_append_right _ h)) (by decide +kernel))
set_option maxRecDepth 20000 in
theorem gL_law_L_pressed : GoodIn wsL_law (va_wsS RL 86 yL_pressed wsL_pressed) := goodIn_app (goodIn_of _ (by decide +kernel)) ggL_law_L_pressed
set_option maxRecDepth 20000 in
theorem ggL_law_X7_pressed : GoodIn wsL_law wsX7_pressed := goodIn_r _ [610, 378, 95, 374, 120, 96, 97, 611, 612, 613, 5, 614, 822, 823, 824, 825, 826, 827, 828, 829, 830, 831, 832, 833, 834, 835, 836, 837, 838, 839, 840, 841, 842, 843, 844, 845, 846, 847, 848, 849, 850, 851, 852, 853, 854] (by decide +kernel) (by decide +kernel)
set_option maxRecDepth 20000 in
theorem gL_law_X7_pressed : GoodIn wsL_law (wsV RL 88 RX7 yX7_pressed wsX7_pressed) := goodIn_app (goodIn_of _ (by decide +kernel)) ggL_law_X7_pressed
set_option maxRecDepth 20000 in
theorem ggL_law_X6_skew : GoodIn wsL_law wsX6_skew := goodIn_r _ [618, 29, 619, 620, 621, 28, 622, 137, 623, 624, 625, 626, 51, 52, 53, 54, 55, 817, 818, 819, 820, 821, 866, 867, 868, 869, 870, 871, 872, 873, 874, 875, 876, 877] (by decide +kernel) (by decide +kernel)
set_option maxRecDepth 20000 in
theorem gL_law_X6_skew : GoodIn wsL_law (wsV RL 89 RX6 yX6_skew wsX6_skew) := goodIn_app (goodIn_of _ (by decide +kernel)) ggL_law_X6_skew
set_option maxRecDepth 20000 in
theorem ggL_law_X7_skew : GoodIn wsL_law wsX7_skew := goodIn_r _ [630, 120, 378, 87, 374, 631, 632, 633, 5, 634, 88, 91, 92, 101, 89, 90, 635, 636, 637, 638, 93, 94, 822, 823, 824, 825, 826, 827, 828, 829, 830, 831, 832, 833, 834, 835, 836, 837, 838, 839, 840, 841, 842, 843, 844, 845, 846, 847, 848, 849, 850, 851, 852, 853, 854] (by decide +kernel) (by decide +kernel)
set_option maxRecDepth 20000 in
theorem gL_law_X7_skew : GoodIn wsL_law (wsV RL 92 RX7 yX7_skew wsX7_skew) := goodIn_app (goodIn_of _ (by decide +kernel)) ggL_law_X7_skew
