set_option maxRecDepth 20000 in
theorem wsL_law_in0_21 : ∀ w ∈ wsL_law0_r21, w ∈ lw_tbl := mem_r _ [1018, 48, 1019, 1020, 1022, 49, 1023, 542, 543, 64, 544, 545, 546, 547, 548, 549, 550, 626, 82, 208, 646, 551, 553, 23] (by decide +kernel)
set_option maxRecDepth 20000 in
theorem wsL_law_in0_22 : ∀ w ∈ wsL_law0_r22, w ∈ lw_tbl := mem_r _ [554, 555, 81, 622, 623, 624, 642, 643, 644, 645, 647, 648, 649, 650, 651, 652, 1024, 1025, 1026, 1027, 1039, 1028, 1030, 50] (by decide +kernel)
set_option maxRecDepth 20000 in
theorem wsL_law_in0_23 : ∀ w ∈ wsL_law0_r23, w ∈ lw_tbl := mem_r _ [1031, 1032, 1033, 1034, 1035, 1037, 51, 1038, 1040, 1041, 1042, 1043, 1044, 1045, 908, 909, 910, 911, 653, 654, 655, 656, 657, 658] (by decide +kernel)
set_option maxRecDepth 20000 in
theorem wsL_law_in0_24 : ∀ w ∈ wsL_law0_r24, w ∈ lw_tbl := mem_r _ [659, 1046, 1047, 1048, 1049, 660, 661, 662, 663, 664, 665, 666, 227, 672, 673, 674, 675, 667, 669, 25, 670, 233, 676, 1050] (by decide +kernel)
set_option maxRecDepth 20000 in
theorem wsL_law_in0_25 : ∀ w ∈ wsL_law0_r25, w ∈ lw_tbl := mem_r _ [1051, 1052, 1053, 1054, 1056, 52, 1057, 677, 678, 679, 680, 681, 682, 683, 224, 197, 185, 175, 179, 685, 686, 687, 688, 689] (by decide +kernel)
set_option maxRecDepth 20000 in
theorem wsL_law_in0_26 : ∀ w ∈ wsL_law0_r26, w ∈ lw_tbl := mem_r _ [691, 26, 692, 693, 694, 695, 696, 1058, 1059, 1060, 1061, 1062, 1064, 53, 1065, 513, 514, 515, 516, 517, 518, 519, 520, 521] (by decide +kernel)
set_option maxRecDepth 20000 in
theorem wsL_law_in0_27 : ∀ w ∈ wsL_law0_r27, w ∈ lw_tbl := mem_r _ [523, 21, 524, 1066, 1067, 1068, 1069, 1070, 1072, 54, 1073, 1074, 1076, 55, 1077, 697, 698, 699, 700, 701, 702, 703, 704, 706] (by decide +kernel)
set_option maxRecDepth 20000 in
theorem wsL_law_in0_28 : ∀ w ∈ wsL_law0_r28, w ∈ lw_tbl := mem_r _ [83, 705, 722, 723, 724, 725, 1078, 1079, 1080, 1081, 1082, 726, 727, 728, 729, 730, 731, 732, 733, 735, 27, 736, 738, 739] (by decide +kernel)
set_option maxRecDepth 20000 in
theorem wsL_law_in0_29 : ∀ w ∈ wsL_law0_r29, w ∈ lw_tbl := mem_r _ [740, 741, 541, 742, 743, 84, 744, 1092, 1093, 1094, 1095, 745, 746, 747, 748, 749, 750, 751, 752, 754, 28, 755, 143, 758] (by decide +kernel)
set_option maxRecDepth 20000 in
theorem wsL_law_in0_30 : ∀ w ∈ wsL_law0_r30, w ∈ lw_tbl := mem_r _ [759, 760, 761, 1096, 1097, 1098, 1099, 1100, 1102, 56, 1103, 525, 526, 527, 528, 529, 530, 531, 532, 533, 534, 535, 536, 231] (by decide +kernel)
set_option maxRecDepth 20000 in
theorem wsL_law_in0_31 : ∀ w ∈ wsL_law0_r31, w ∈ lw_tbl := mem_r _ [209, 214, 537, 539, 22, 540, 1104, 1105, 1106, 1107, 1108, 1110, 57, 1111, 762, 763, 764, 765, 766, 767, 768, 769, 1112, 1113] (by decide +kernel)
set_option maxRecDepth 20000 in
theorem wsL_law_in0_32 : ∀ w ∈ wsL_law0_r32, w ∈ lw_tbl := mem_r _ [1114, 1115, 770, 771, 772, 773, 774, 775, 776, 219, 1083, 1084, 1085, 1086, 777, 778, 779, 780, 781, 782, 783, 789, 784, 785] (by decide +kernel)
set_option maxRecDepth 20000 in
theorem wsL_law_in0_33 : ∀ w ∈ wsL_law0_r33, w ∈ lw_tbl := mem_r _ [786, 787, 788, 1087, 1088, 1089, 1090, 1091, 790, 791, 792, 793, 794, 795, 796, 798, 799, 800, 801, 1116, 1117, 1118, 1119, 838] (by decide +kernel)
set_option maxRecDepth 20000 in
theorem wsL_law_in0_34 : ∀ w ∈ wsL_law0_r34, w ∈ lw_tbl := mem_r _ [1120, 1122, 58, 1123, 1124, 1126, 59, 1127, 1128, 1130, 60, 1131, 1132, 1134, 61, 1135, 1136, 1137, 1139, 62, 1140, 1141, 1143, 63] (by decide +kernel)
set_option maxRecDepth 20000 in
theorem wsL_law_in0_35 : ∀ w ∈ wsL_law0_r35, w ∈ lw_tbl := mem_r _ [1144] (by decide +kernel)
set_option maxRecDepth 20000 in
theorem in0_wsX60 : ∀ w ∈ wsX60, w ∈ lw_tbl := mem_r _ [265, 267, 269, 271, 273] (by decide +kernel)
set_option maxRecDepth 20000 in
theorem in0_wsX70 : ∀ w ∈ wsX70, w ∈ lw_tbl := mem_r _ [840, 842, 844, 846, 848, 850, 852, 854, 856, 858, 860, 862, 864, 866, 868, 870, 872, 874, 876, 878, 880, 882, 884, 886, 888, 890, 892, 894, 896, 898, 900, 902, 904] (by decide +kernel)
set_option maxRecDepth 20000 in
theorem in0_wsX40 : ∀ w ∈ wsX40, w ∈ lw_tbl := mem_r _ [104, 106, 108, 110, 112] (by decide +kernel)
set_option maxRecDepth 20000 in
theorem in0_wsX50 : ∀ w ∈ wsX50, w ∈ lw_tbl := mem_r _ [125, 127, 129] (by decide +kernel)
set_option maxRecDepth 20000 in
theorem in0_wsX10 : ∀ w ∈ wsX10, w ∈ lw_tbl := mem_r _ [144, 146, 148] (by decide +kernel)
set_option maxRecDepth 20000 in
theorem in0_wsX00 : ∀ w ∈ wsX00, w ∈ lw_tbl := mem_r _ [235, 237, 239, 241, 243, 245, 247, 249, 251, 253, 255, 257] (by decide +kernel)
set_option maxRecDepth 20000 in
theorem in0_wsX20 : ∀ w ∈ wsX20, w ∈ lw_tbl := mem_r _ [199, 201] (by decide +kernel)
set_option maxRecDepth 20000 in
theorem in0_wsX30 : ∀ w ∈ wsX30, w ∈ lw_tbl := mem_r _ [186, 188, 190] (by decide +kernel)
theorem wsL_law_in0 : ∀ w ∈ wsL_law0, w ∈ lw_tbl := mem_a (mem_a (mem_a (mem_a (mem_a (mem_a (mem_a (mem_a (mem_a (mem_a (wsL_law_in0_1) (mem_a (wsL_law_in0_2) (mem_a (wsL_law_in0_3) (mem_a (wsL_law_in0_4) (mem_a (wsL_law_in0_5) (mem_a (wsL_law_in0_6) (mem_a (wsL_law_in0_7) (mem_a (wsL_law_in0_8) (mem_a (wsL_law_in0_9) (mem_a (wsL_law_in0_10) (mem_a (wsL_law_in0_11) (mem_a (wsL_law_in0_12) (mem_a (wsL_law_in0_13) (mem_a (wsL_law_in0_14) (mem_a (wsL_law_in0_15) (mem_a (wsL_law_in0_16) (mem_a (wsL_law_in0_17) (mem_a (wsL_law_in0_18) (mem_a (wsL_law_in0_19) (mem_a (wsL_law_in0_20) (mem_a (wsL_law_in0_21) (mem_a (wsL_law_in0_22) (mem_a (wsL_law_in0_23) (mem_a (wsL_law_in0_24) (mem_a (wsL_law_in0_25) (mem_a (wsL_law_in0_26) (mem_a (wsL_law_in0_27) (mem_a (wsL_law_in0_28) (mem_a (wsL_law_in0_29) (mem_a (wsL_law_in0_30) (mem_a (wsL_law_in0_31) (mem_a (wsL_law_in0_32) (mem_a (wsL_law_in0_33) (mem_a (wsL_law_in0_34) (wsL_law_in0_35))))))))))))))))))))))))))))))))))) (in0_wsX60)) (in0_wsX70)) (in0_wsX40)) (in0_wsX50)) (in0_wsX10)) (in0_wsX00)) (in0_wsX20)) (in0_wsX30)) fun w h => by cases h
