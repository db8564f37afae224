set_option maxRecDepth 20000 in
theorem ggL_law_L_copper : GoodIn wsL_law wsL_copper := goodIn_ca (goodIn_ca (goodIn_r _ [641, 491, 642, 643, 644, 645, 2, 646, 647, 648, 649, 29, 500, 569, 570, 571, 572, 505, 506, 573, 650, 651, 652, 28, 653, 57, 55, 817, 818, 819, 820, 821, 866, 867, 868, 869, 870, 871, 872, 873, 874, 875, 876, 877] (by decide +kernel) (by decide +kernel)) (goodIn_sub (fun _ h => List.mem_append_right _ h) (by decide +kernel))) (goodIn_sub (fun _ h => List.mem_append_left _ (List.mem_append_right _ h)) (by decide +kernel))
set_option maxRecDepth 20000 in
theorem gL_law_L_copper : GoodIn wsL_law (va_wsS RL 95 yL_copper wsL_copper) := goodIn_app (goodIn_of _ (by decide +kernel)) ggL_law_L_copper
set_option maxRecDepth 20000 in
theorem ggL_law_X7_copper : GoodIn wsL_law wsX7_copper := goodIn_r _ [657, 658, 120, 524, 101, 579, 580, 581, 5, 582, 378, 93, 374, 822, 823, 824, 825, 826, 827, 828, 829, 830, 831, 832, 833, 834, 835, 836, 837, 838, 839, 840, 841, 842, 843, 844, 845, 846, 847, 848, 849, 850, 851, 852, 853, 854] (by decide +kernel) (by decide +kernel)
set_option maxRecDepth 20000 in
theorem gL_law_X7_copper : GoodIn wsL_law (wsV RL 98 RX7 yX7_copper wsX7_copper) := goodIn_app (goodIn_of _ (by decide +kernel)) ggL_law_X7_copper
set_option maxRecDepth 20000 in
theorem ggL_law_L_list : GoodIn wsL_law wsL_list := goodIn_ca (goodIn_r _ [661, 492, 662, 663, 664, 2, 665, 25, 666, 667, 668, 669, 497, 498, 29, 126, 670, 671, 672, 24, 673, 326, 45, 674, 675, 676, 677, 678, 817, 818, 819, 820, 821, 866, 867, 868, 869, 870, 871, 872, 873, 874, 875, 876, 877, 863, 864, 865] (by decide +kernel) (by decide +kernel)) (goodIn_sub (fun _ h => List.mem_append_left _ (List.mem_append_left _ (List.mem_append_right _ h))) (by decide +kernel))
set_option maxRecDepth 20000 in
theorem gL_law_L_list : GoodIn wsL_law (va_wsS RL 99 yL_list wsL_list) := goodIn_app (goodIn_of _ (by decide +kernel)) ggL_law_L_list
set_option maxRecDepth 20000 in
theorem ggL_law_X7_list : GoodIn wsL_law wsX7_list := goodIn_r _ [682, 378, 120, 379, 103, 822, 823, 824, 825, 826, 827, 828, 829, 830, 831, 832, 833, 834, 835, 836, 837, 838, 839, 840, 841, 842, 843, 844, 845, 846, 847, 848, 849, 850, 851, 852, 853, 854] (by decide +kernel) (by decide +kernel)
set_option maxRecDepth 20000 in
theorem gL_law_X7_list : GoodIn wsL_law (wsV RL 102 RX7 yX7_list wsX7_list) := goodIn_app (goodIn_of _ (by decide +kernel)) ggL_law_X7_list
set_option maxRecDepth 20000 in
theorem ggL_law_L_row : GoodIn wsL_law wsL_row := goodIn_ca (goodIn_ca (goodIn_r _ [685, 491, 642, 686, 687, 688, 2, 689, 647, 648, 29, 499, 25, 690, 691, 692, 693, 505, 506, 694, 501, 502, 503, 504, 126, 695, 696, 697, 24, 698, 45, 674, 46, 817, 818, 819, 820, 821, 866, 867, 868, 869, 870, 871, 872, 873, 874, 875, 876, 877, 863, 864, 865] (by decide +kernel) (by decide +kernel)) (goodIn_sub (fun _ h => List.mem_append_right _ h) (by decide +kernel))) (goodIn_sub (fun _ h => List.mem_append_left _ (List.mem_append_right _ h)) (by decide +kernel))
set_option maxRecDepth 20000 in
theorem gL_law_L_row : GoodIn wsL_law (va_wsS RL 103 yL_row wsL_row) := goodIn_app (goodIn_of _ (by decide +kernel)) ggL_law_L_row
set_option maxRecDepth 20000 in
theorem ggL_law_X7_row : GoodIn wsL_law wsX7_row := goodIn_r _ [702, 120, 88, 374, 103, 104, 105, 703, 704, 705, 5, 706, 379, 525, 526, 527, 528, 378, 87, 822, 823, 824, 825, 826, 827, 828, 829, 830, 831, 832, 833, 834, 835, 836, 837, 838, 839, 840, 841, 842, 843, 844, 845, 846, 847, 848, 849, 850, 851, 852, 853, 854] (by decide +kernel) (by decide +kernel)
set_option maxRecDepth 20000 in
theorem gL_law_X7_row : GoodIn wsL_law (wsV RL 106 RX7 yX7_row wsX7_row) := goodIn_app (goodIn_of _ (by decide +kernel)) ggL_law_X7_row
set_option maxRecDepth 20000 in
theorem ggL_law_X6_match : GoodIn wsL_law wsX6_match := goodIn_r _ [710, 25, 29, 711, 712, 713, 24, 714, 326, 715, 716, 717, 718, 719, 720, 721, 722, 723, 724, 725, 45, 674, 46, 817, 818, 819, 820, 821, 863, 864, 865, 866, 867, 868, 869, 870, 871, 872, 873, 874, 875, 876, 877] (by decide +kernel) (by decide +kernel)
set_option maxRecDepth 20000 in
theorem gL_law_X6_match : GoodIn wsL_law (wsV RL 107 RX6 yX6_match wsX6_match) := goodIn_app (goodIn_of _ (by decide +kernel)) ggL_law_X6_match
set_option maxRecDepth 20000 in
theorem ggL_law_X7_match : GoodIn wsL_law wsX7_match := goodIn_r _ [729, 120, 379, 730, 731, 732, 5, 733, 87, 374, 91, 103, 104, 105, 88, 822, 823, 824, 825, 826, 827, 828, 829, 830, 831, 832, 833, 834, 835, 836, 837, 838, 839, 840, 841, 842, 843, 844, 845, 846, 847, 848, 849, 850, 851, 852, 853, 854] (by decide +kernel) (by decide +kernel)
set_option maxRecDepth 20000 in
theorem gL_law_X7_match : GoodIn wsL_law (wsV RL 110 RX7 yX7_match wsX7_match) := goodIn_app (goodIn_of _ (by decide +kernel)) ggL_law_X7_match
