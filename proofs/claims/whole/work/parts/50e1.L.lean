set_option maxRecDepth 20000 in
theorem ggL_law_X7_unit : GoodIn wsL_law wsX7_unit := goodIn_r _ [119, 120, 121, 86, 822, 823, 824, 825, 826, 827, 828, 829, 830, 831, 832, 833, 834, 835, 836, 837, 838, 839, 840, 841, 842, 843, 844, 845, 846, 847, 848, 849, 850, 851, 852, 853, 854] (by decide +kernel) (by decide +kernel)
set_option maxRecDepth 20000 in
theorem gL_law_X7_unit : GoodIn wsL_law (wsV RL 64 RX7 yX7_unit wsX7_unit) := goodIn_app (goodIn_of _ (by decide +kernel)) ggL_law_X7_unit
set_option maxRecDepth 20000 in
theorem ggL_law_X6_read_wsX6_read_r1 : GoodIn wsL_law wsX6_read_r1 := goodIn_r _ [17, 30, 29, 25, 21, 126, 127, 128, 129, 16, 130, 131, 132, 115, 133, 134, 135, 28, 136, 137, 138, 139, 61, 65] (by decide +kernel) (by decide +kernel)
set_option maxRecDepth 20000 in
theorem ggL_law_X6_read_wsX6_read_r2 : GoodIn wsL_law wsX6_read_r2 := goodIn_r _ [140, 141, 142, 143, 60, 144, 70, 145, 146, 147, 148, 149, 150, 151, 152, 153, 154, 155, 156, 76, 77, 78, 157, 2] (by decide +kernel) (by decide +kernel)
set_option maxRecDepth 20000 in
theorem ggL_law_X6_read_wsX6_read_r3 : GoodIn wsL_law wsX6_read_r3 := goodIn_r _ [158, 159, 160, 161, 162, 163, 164, 165, 166, 167, 168, 169, 170, 171, 172, 173, 174, 175, 176, 177, 178, 35, 179, 180] (by decide +kernel) (by decide +kernel)
set_option maxRecDepth 20000 in
theorem ggL_law_X6_read_wsX6_read_r4 : GoodIn wsL_law wsX6_read_r4 := goodIn_r _ [181, 182, 183, 184, 185, 186, 187, 188, 189, 190, 191, 192, 193, 194, 195, 196, 197, 198, 199, 200, 201, 202, 203, 204] (by decide +kernel) (by decide +kernel)
set_option maxRecDepth 20000 in
theorem ggL_law_X6_read_wsX6_read_r5 : GoodIn wsL_law wsX6_read_r5 := goodIn_r _ [205, 206, 207, 208, 209, 210, 211, 212, 213, 214, 215, 216, 217, 218, 219, 220, 221, 222, 223, 224, 225, 226, 227, 51] (by decide +kernel) (by decide +kernel)
set_option maxRecDepth 20000 in
theorem ggL_law_X6_read_wsX6_read_r6 : GoodIn wsL_law wsX6_read_r6 := goodIn_r _ [228, 229, 230, 231, 232, 233, 234, 235, 64, 236, 237, 79, 80, 238, 239, 240, 241, 242, 243, 244, 245, 246, 247, 248] (by decide +kernel) (by decide +kernel)
set_option maxRecDepth 20000 in
theorem ggL_law_X6_read_wsX6_read_r7 : GoodIn wsL_law wsX6_read_r7 := goodIn_r _ [249, 250, 251, 252, 253, 254, 255, 256, 257, 258, 259, 260, 261, 262, 263, 264, 265, 266, 267, 268, 52, 57, 269, 270] (by decide +kernel) (by decide +kernel)
set_option maxRecDepth 20000 in
theorem ggL_law_X6_read_wsX6_read_r8 : GoodIn wsL_law wsX6_read_r8 := goodIn_r _ [271, 272, 273, 274, 275, 276, 277, 278, 279, 280, 281, 282, 283, 284, 285, 286, 287, 288, 289, 290, 291, 292, 293, 294] (by decide +kernel) (by decide +kernel)
set_option maxRecDepth 20000 in
theorem ggL_law_X6_read_wsX6_read_r9 : GoodIn wsL_law wsX6_read_r9 := goodIn_r _ [295, 296, 297, 298, 299, 300, 301, 302, 303, 304, 305, 306, 307, 308, 309, 53, 54, 55, 56, 310, 311, 312, 313, 314] (by decide +kernel) (by decide +kernel)
set_option maxRecDepth 20000 in
theorem ggL_law_X6_read_wsX6_read_r10 : GoodIn wsL_law wsX6_read_r10 := goodIn_r _ [315, 316, 317, 318, 319, 320, 321, 322, 323, 324, 24, 325, 326, 327, 328, 329, 20, 330, 331, 332, 333, 334, 335, 336] (by decide +kernel) (by decide +kernel)
set_option maxRecDepth 20000 in
theorem ggL_law_X6_read_wsX6_read_r11 : GoodIn wsL_law wsX6_read_r11 := goodIn_r _ [337, 338, 339, 340, 341, 342, 343, 344, 345, 346, 347, 348, 349, 350, 351, 352, 353, 354, 355, 356, 39, 357, 358, 359] (by decide +kernel) (by decide +kernel)
set_option maxRecDepth 20000 in
theorem ggL_law_X6_read_wsX6_read_r12 : GoodIn wsL_law wsX6_read_r12 := goodIn_r _ [360, 361, 362, 363, 364, 40, 365, 366, 367, 368, 369] (by decide +kernel) (by decide +kernel)
set_option maxRecDepth 20000 in
theorem ggL_law_X6_read_wsX60 : GoodIn wsL_law wsX60 := goodIn_r _ [817, 818, 819, 820, 821] (by decide +kernel) (by decide +kernel)
set_option maxRecDepth 20000 in
theorem ggL_law_X6_read_wsX00 : GoodIn wsL_law wsX00 := goodIn_r _ [866, 867, 868, 869, 870, 871, 872, 873, 874, 875, 876, 877] (by decide +kernel) (by decide +kernel)
set_option maxRecDepth 20000 in
theorem ggL_law_X6_read_wsX40 : GoodIn wsL_law wsX40 := goodIn_r _ [855, 856, 857, 858, 859] (by decide +kernel) (by decide +kernel)
set_option maxRecDepth 20000 in
theorem ggL_law_X6_read_wsX30 : GoodIn wsL_law wsX30 := goodIn_r _ [880, 881, 882] (by decide +kernel) (by decide +kernel)
set_option maxRecDepth 20000 in
theorem ggL_law_X6_read_wsX20 : GoodIn wsL_law wsX20 := goodIn_r _ [878, 879] (by decide +kernel) (by decide +kernel)
set_option maxRecDepth 20000 in
theorem ggL_law_X6_read_wsX10 : GoodIn wsL_law wsX10 := goodIn_r _ [863, 864, 865] (by decide +kernel) (by decide +kernel)
set_option maxRecDepth 20000 in
theorem ggL_law_X6_read_wsX50 : GoodIn wsL_law wsX50 := goodIn_r _ [860, 861, 862] (by decide +kernel) (by decide +kernel)
set_option maxRecDepth 20000 in
theorem ggL_law_X6_read_c : GoodIn wsL_law [.code yX6_read cX6_read 3 (some .int)] := goodIn_r _ [125] (by decide +kernel) (by decide +kernel)
set_option maxRecDepth 20000 in
theorem ggL_law_X6_read : GoodIn wsL_law wsX6_read := goodIn_app ggL_law_X6_read_c (goodIn_app (goodIn_app (goodIn_app (goodIn_app (goodIn_app (goodIn_app (goodIn_app (goodIn_app ggL_law_X6_read_wsX6_read_r1 (goodIn_app ggL_law_X6_read_wsX6_read_r2 (goodIn_app ggL_law_X6_read_wsX6_read_r3 (goodIn_app ggL_law_X6_read_wsX6_read_r4 (goodIn_app ggL_law_X6_read_wsX6_read_r5 (goodIn_app ggL_law_X6_read_wsX6_read_r6 (goodIn_app ggL_law_X6_read_wsX6_read_r7 (goodIn_app ggL_law_X6_read_wsX6_read_r8 (goodIn_app ggL_law_X6_read_wsX6_read_r9 (goodIn_app ggL_law_X6_read_wsX6_read_r10 (goodIn_app ggL_law_X6_read_wsX6_read_r11 ggL_law_X6_read_wsX6_read_r12))))))))))) ggL_law_X6_read_wsX60) ggL_law_X6_read_wsX00) ggL_law_X6_read_wsX40) ggL_law_X6_read_wsX30) ggL_law_X6_read_wsX20) ggL_law_X6_read_wsX10) ggL_law_X6_read_wsX50)
set_option maxRecDepth 20000 in
theorem gL_law_X6_read : GoodIn wsL_law (wsV RL 65 RX6 yX6_read wsX6_read) := goodIn_app (goodIn_of _ (by decide +kernel)) ggL_law_X6_read
