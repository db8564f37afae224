theorem mem_r {big : List Cond} (ws : List Cond) (ps : List Nat) (hp : ws = ps.filterMap (fun i => big[i]?)) : ∀ w ∈ ws, w ∈ big := by
  intro w hw
  rw [hp] at hw
  obtain ⟨i, -, hi⟩ := List.mem_filterMap.mp hw
  first | exact List.mem_of_getElem? hi | exact List.getElem?_mem hi
theorem mem_a {big a b : List Cond} (ha : ∀ w ∈ a, w ∈ big) (hb : ∀ w ∈ b, w ∈ big) : ∀ w ∈ a ++ b, w ∈ big := fun w h => (List.mem_append.mp h).elim (ha w) (hb w)
set_option maxRecDepth 20000 in
theorem wsL_law_in0_1 : ∀ w ∈ wsL_law0_r1, w ∈ lw_tbl := mem_r _ [85, 86, 65, 802, 803, 73, 151, 1145, 87, 88, 89, 90, 91, 92, 93, 94, 66, 260, 116, 117, 67, 261, 132, 133] (by decide +kernel)
set_option maxRecDepth 20000 in
theorem wsL_law_in0_2 : ∀ w ∈ wsL_law0_r2, w ∈ lw_tbl := mem_r _ [68, 262, 152, 153, 69, 263, 264, 96, 97, 98, 115, 99, 119, 120, 121, 122, 123, 135, 136, 137, 138, 140, 141, 155] (by decide +kernel)
set_option maxRecDepth 20000 in
theorem wsL_law_in0_3 : ∀ w ∈ wsL_law0_r3, w ∈ lw_tbl := mem_r _ [156, 157, 193, 206, 210, 212, 215, 217, 218, 220, 158, 159, 70, 222, 204, 165, 71, 225, 161, 162, 163, 164, 194, 166] (by decide +kernel)
set_option maxRecDepth 20000 in
theorem wsL_law_in0_4 : ∀ w ∈ wsL_law0_r4, w ∈ lw_tbl := mem_r _ [167, 168, 169, 170, 171, 72, 172, 173, 177, 205, 804, 805, 806, 807, 809, 813, 814, 815, 816, 817, 818, 819, 820, 821] (by decide +kernel)
set_option maxRecDepth 20000 in
theorem wsL_law_in0_5 : ∀ w ∈ wsL_law0_r5, w ∈ lw_tbl := mem_r _ [822, 823, 824, 825, 826, 827, 907, 829, 830, 831, 837, 276, 277, 278, 279, 280, 281, 282, 283, 100, 912, 913, 914, 915] (by decide +kernel)
set_option maxRecDepth 20000 in
theorem wsL_law_in0_6 : ∀ w ∈ wsL_law0_r6, w ∈ lw_tbl := mem_r _ [808, 810, 284, 285, 286, 287, 230, 288, 289, 290, 291, 101, 103, 292, 293, 294, 295, 228, 232, 234, 183, 296, 297, 298] (by decide +kernel)
set_option maxRecDepth 20000 in
theorem wsL_law_in0_7 : ∀ w ∈ wsL_law0_r7, w ∈ lw_tbl := mem_r _ [299, 182, 198, 300, 302, 0, 303, 102, 304, 306, 1, 307, 374, 309, 310, 318, 320, 2, 321, 322, 323, 324, 74, 325] (by decide +kernel)
set_option maxRecDepth 20000 in
theorem wsL_law_in0_8 : ∀ w ∈ wsL_law0_r8, w ∈ lw_tbl := mem_r _ [1147, 326, 327, 328, 329, 330, 1148, 332, 334, 3, 335, 336, 337, 338, 339, 340, 341, 342, 343, 344, 345, 75, 346, 347] (by decide +kernel)
set_option maxRecDepth 20000 in
theorem wsL_law_in0_9 : ∀ w ∈ wsL_law0_r9, w ∈ lw_tbl := mem_r _ [348, 349, 350, 352, 353, 76, 354, 355, 356, 77, 357, 358, 359, 360, 361, 362, 363, 364, 365, 366, 367, 368, 370, 372] (by decide +kernel)
set_option maxRecDepth 20000 in
theorem wsL_law_in0_10 : ∀ w ∈ wsL_law0_r10, w ∈ lw_tbl := mem_r _ [375, 377, 4, 378, 379, 381, 5, 382, 383, 384, 385, 386, 196, 387, 388, 389, 390, 391, 392, 393, 394, 181, 395, 396] (by decide +kernel)
set_option maxRecDepth 20000 in
theorem wsL_law_in0_11 : ∀ w ∈ wsL_law0_r11, w ∈ lw_tbl := mem_r _ [397, 398, 399, 400, 401, 402, 403, 404, 406, 6, 407, 408, 410, 7, 411, 412, 414, 8, 415, 416, 417, 418, 419, 420] (by decide +kernel)
set_option maxRecDepth 20000 in
theorem wsL_law_in0_12 : ∀ w ∈ wsL_law0_r12, w ∈ lw_tbl := mem_r _ [421, 422, 423, 424, 425, 426, 427, 428, 429, 430, 431, 432, 433, 434, 435, 436, 437, 438, 440, 9, 441, 176, 180, 442] (by decide +kernel)
set_option maxRecDepth 20000 in
theorem wsL_law_in0_13 : ∀ w ∈ wsL_law0_r13, w ∈ lw_tbl := mem_r _ [444, 10, 445, 446, 448, 11, 449, 450, 451, 452, 454, 12, 455, 464, 456, 457, 458, 459, 460, 461, 462, 463, 465, 467] (by decide +kernel)
set_option maxRecDepth 20000 in
theorem wsL_law_in0_14 : ∀ w ∈ wsL_law0_r14, w ∈ lw_tbl := mem_r _ [13, 468, 469, 471, 14, 472, 473, 474, 475, 476, 477, 478, 479, 480, 142, 481, 482, 483, 484, 124, 229, 223, 195, 184] (by decide +kernel)
set_option maxRecDepth 20000 in
theorem wsL_law_in0_15 : ∀ w ∈ wsL_law0_r15, w ∈ lw_tbl := mem_r _ [174, 178, 226, 485, 487, 15, 488, 207, 211, 213, 216, 490, 492, 16, 493, 494, 495, 496, 498, 17, 499, 500, 502, 18] (by decide +kernel)
set_option maxRecDepth 20000 in
theorem wsL_law_in0_16 : ∀ w ∈ wsL_law0_r16, w ∈ lw_tbl := mem_r _ [503, 504, 506, 19, 507, 508, 510, 20, 511, 221, 916, 917, 918, 919, 812, 833, 832, 834, 811, 828, 920, 922, 29, 923] (by decide +kernel)
set_option maxRecDepth 20000 in
theorem wsL_law_in0_17 : ∀ w ∈ wsL_law0_r17, w ∈ lw_tbl := mem_r _ [924, 926, 30, 927, 928, 930, 31, 931, 932, 934, 32, 935, 936, 937, 938, 946, 939, 940, 941, 942, 943, 944, 945, 947] (by decide +kernel)
set_option maxRecDepth 20000 in
theorem wsL_law_in0_18 : ∀ w ∈ wsL_law0_r18, w ∈ lw_tbl := mem_r _ [949, 33, 950, 951, 953, 34, 954, 835, 836, 991, 955, 957, 35, 958, 959, 961, 36, 962, 963, 965, 37, 966, 967, 969] (by decide +kernel)
set_option maxRecDepth 20000 in
theorem wsL_law_in0_19 : ∀ w ∈ wsL_law0_r19, w ∈ lw_tbl := mem_r _ [38, 970, 971, 972, 973, 974, 976, 39, 977, 978, 980, 40, 981, 989, 982, 984, 41, 985, 990, 986, 987, 988, 992, 994] (by decide +kernel)
set_option maxRecDepth 20000 in
theorem wsL_law_in0_20 : ∀ w ∈ wsL_law0_r20, w ∈ lw_tbl := mem_r _ [42, 995, 996, 998, 43, 999, 839, 1000, 1002, 44, 1003, 1004, 1006, 45, 1007, 1008, 1010, 46, 1011, 1012, 1014, 47, 1015, 1016] (by decide +kernel)
