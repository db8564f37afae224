set_option maxRecDepth 20000 in
theorem ggL_law_L_changes : GoodIn wsL_law wsL_changes := goodIn_ca (goodIn_r _ [736, 491, 737, 738, 739, 2, 740, 25, 29, 690, 691, 692, 693, 505, 506, 694, 741, 716, 717, 24, 718, 719, 720, 721, 722, 723, 724, 725, 45, 674, 46, 817, 818, 819, 820, 821, 863, 864, 865, 866, 867, 868, 869, 870, 871, 872, 873, 874, 875, 876, 877] (by decide +kernel) (by decide +kernel)) (goodIn_sub (fun _ h => List.mem_append_left _ (List.mem_append_right _ h)) (by decide +kernel))
set_option maxRecDepth 20000 in
theorem gL_law_L_changes : GoodIn wsL_law (va_wsS RL 111 yL_changes wsL_changes) := goodIn_app (goodIn_of _ (by decide +kernel)) ggL_law_L_changes
set_option maxRecDepth 20000 in
theorem ggL_law_X7_changes : GoodIn wsL_law wsX7_changes := goodIn_r _ [745, 120, 703, 704, 705, 5, 706, 379, 730, 731, 732, 733, 87, 374, 91, 103, 104, 105, 88, 822, 823, 824, 825, 826, 827, 828, 829, 830, 831, 832, 833, 834, 835, 836, 837, 838, 839, 840, 841, 842, 843, 844, 845, 846, 847, 848, 849, 850, 851, 852, 853, 854] (by decide +kernel) (by decide +kernel)
set_option maxRecDepth 20000 in
theorem gL_law_X7_changes : GoodIn wsL_law (wsV RL 113 RX7 yX7_changes wsX7_changes) := goodIn_app (goodIn_of _ (by decide +kernel)) ggL_law_X7_changes
set_option maxRecDepth 20000 in
theorem ggL_law_L_role : GoodIn wsL_law wsL_role := goodIn_ca (goodIn_r _ [748, 491, 749, 750, 751, 2, 752, 29, 753, 501, 502, 503, 504, 505, 506, 126, 817, 818, 819, 820, 821, 866, 867, 868, 869, 870, 871, 872, 873, 874, 875, 876, 877] (by decide +kernel) (by decide +kernel)) (goodIn_sub (fun _ h => List.mem_append_left _ (List.mem_append_right _ h)) (by decide +kernel))
set_option maxRecDepth 20000 in
theorem gL_law_L_role : GoodIn wsL_law (va_wsS RL 114 yL_role wsL_role) := goodIn_app (goodIn_of _ (by decide +kernel)) ggL_law_L_role
set_option maxRecDepth 20000 in
theorem ggL_law_X7_role : GoodIn wsL_law wsX7_role := goodIn_r _ [757, 120, 525, 526, 527, 5, 528, 378, 87, 374, 635, 636, 637, 638, 93, 94, 822, 823, 824, 825, 826, 827, 828, 829, 830, 831, 832, 833, 834, 835, 836, 837, 838, 839, 840, 841, 842, 843, 844, 845, 846, 847, 848, 849, 850, 851, 852, 853, 854] (by decide +kernel) (by decide +kernel)
set_option maxRecDepth 20000 in
theorem gL_law_X7_role : GoodIn wsL_law (wsV RL 116 RX7 yX7_role wsX7_role) := goodIn_app (goodIn_of _ (by decide +kernel)) ggL_law_X7_role

set_option maxRecDepth 20000 in
theorem ggL_law_L_sum : GoodIn wsL_law wsL_sum := goodIn_ca (goodIn_r _ [760, 491, 761, 762, 763, 2, 764, 29, 765, 507, 508, 509, 505, 506, 766, 767, 768, 28, 769, 137, 55, 770, 511, 512, 513, 54, 53, 514, 515, 516, 517, 518, 519, 817, 818, 819, 820, 821, 866, 867, 868, 869, 870, 871, 872, 873, 874, 875, 876, 877] (by decide +kernel) (by decide +kernel)) (goodIn_sub (fun _ h => List.mem_append_left _ (List.mem_append_right _ h)) (by decide +kernel))
set_option maxRecDepth 20000 in
theorem gL_law_L_sum : GoodIn wsL_law (va_wsS RL 117 yL_sum wsL_sum) := goodIn_app (goodIn_of _ (by decide +kernel)) ggL_law_L_sum
set_option maxRecDepth 20000 in
theorem ggL_law_X7_sum_wsX7_sum_r1 : GoodIn wsL_law wsX7_sum_r1 := goodIn_r _ [120, 378, 87, 374, 88, 101, 524, 775, 529, 530, 5, 531, 532, 533, 534, 535, 91, 92, 635, 636, 637, 638, 93, 94] (by decide +kernel) (by decide +kernel)
set_option maxRecDepth 20000 in
theorem ggL_law_X7_sum_wsX7_sum_r2 : GoodIn wsL_law wsX7_sum_r2 := goodIn_r _ [536, 537, 538, 539, 540, 541] (by decide +kernel) (by decide +kernel)
set_option maxRecDepth 20000 in
theorem ggL_law_X7_sum_wsX70 : GoodIn wsL_law wsX70 := goodIn_r _ [822, 823, 824, 825, 826, 827, 828, 829, 830, 831, 832, 833, 834, 835, 836, 837, 838, 839, 840, 841, 842, 843, 844, 845, 846, 847, 848, 849, 850, 851, 852, 853, 854] (by decide +kernel) (by decide +kernel)
set_option maxRecDepth 20000 in
theorem ggL_law_X7_sum_c : GoodIn wsL_law [.code yX7_sum cX7_sum 6 (some .long)] := goodIn_r _ [774] (by decide +kernel) (by decide +kernel)
set_option maxRecDepth 20000 in
theorem ggL_law_X7_sum : GoodIn wsL_law wsX7_sum := goodIn_app ggL_law_X7_sum_c (goodIn_app (goodIn_app ggL_law_X7_sum_wsX7_sum_r1 ggL_law_X7_sum_wsX7_sum_r2) ggL_law_X7_sum_wsX70)
set_option maxRecDepth 20000 in
theorem gL_law_X7_sum : GoodIn wsL_law (wsV RL 119 RX7 yX7_sum wsX7_sum) := goodIn_app (goodIn_of _ (by decide +kernel)) ggL_law_X7_sum
