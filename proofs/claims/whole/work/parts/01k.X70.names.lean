theorem dX7_init_0 : decode cX7_init 0 = .ok (.aload_n 0, 1) := by decide +kernel
theorem dX7_init_1 : decode cX7_init 1 = .ok (.invokespecial 1, 3) := by decide +kernel
theorem dX7_init_4 : decode cX7_init 4 = .ok (.aload_n 0, 1) := by decide +kernel
theorem dX7_init_5 : decode cX7_init 5 = .ok (.sipush 3000, 3) := by decide +kernel
theorem dX7_init_8 : decode cX7_init 8 = .ok (.newarray .int, 2) := by decide +kernel
theorem dX7_init_10 : decode cX7_init 10 = .ok (.putfield 7, 3) := by decide +kernel
theorem dX7_init_13 : decode cX7_init 13 = .ok (.aload_n 0, 1) := by decide +kernel
theorem dX7_init_14 : decode cX7_init 14 = .ok (.iconst 2, 1) := by decide +kernel
theorem dX7_init_15 : decode cX7_init 15 = .ok (.newarray .int, 2) := by decide +kernel
theorem dX7_init_17 : decode cX7_init 17 = .ok (.putfield 13, 3) := by decide +kernel
theorem dX7_init_20 : decode cX7_init 20 = .ok (.aload_n 0, 1) := by decide +kernel
theorem dX7_init_21 : decode cX7_init 21 = .ok (.sipush 160, 3) := by decide +kernel
theorem dX7_init_24 : decode cX7_init 24 = .ok (.newarray .int, 2) := by decide +kernel
theorem dX7_init_26 : decode cX7_init 26 = .ok (.putfield 16, 3) := by decide +kernel
theorem dX7_init_29 : decode cX7_init 29 = .ok (.aload_n 0, 1) := by decide +kernel
theorem dX7_init_30 : decode cX7_init 30 = .ok (.sipush 160, 3) := by decide +kernel
theorem dX7_init_33 : decode cX7_init 33 = .ok (.newarray .long, 2) := by decide +kernel
theorem dX7_init_35 : decode cX7_init 35 = .ok (.putfield 19, 3) := by decide +kernel
theorem dX7_init_38 : decode cX7_init 38 = .ok (.aload_n 0, 1) := by decide +kernel
theorem dX7_init_39 : decode cX7_init 39 = .ok (.sipush 160, 3) := by decide +kernel
theorem dX7_init_42 : decode cX7_init 42 = .ok (.newarray .int, 2) := by decide +kernel
theorem dX7_init_44 : decode cX7_init 44 = .ok (.putfield 23, 3) := by decide +kernel
theorem dX7_init_47 : decode cX7_init 47 = .ok (.aload_n 0, 1) := by decide +kernel
theorem dX7_init_48 : decode cX7_init 48 = .ok (.sipush 160, 3) := by decide +kernel
theorem dX7_init_51 : decode cX7_init 51 = .ok (.newarray .long, 2) := by decide +kernel
theorem dX7_init_53 : decode cX7_init 53 = .ok (.putfield 26, 3) := by decide +kernel
theorem dX7_init_56 : decode cX7_init 56 = .ok (.aload_n 0, 1) := by decide +kernel
theorem dX7_init_57 : decode cX7_init 57 = .ok (.sipush 160, 3) := by decide +kernel
theorem dX7_init_60 : decode cX7_init 60 = .ok (.newarray .int, 2) := by decide +kernel
theorem dX7_init_62 : decode cX7_init 62 = .ok (.putfield 29, 3) := by decide +kernel
theorem dX7_init_65 : decode cX7_init 65 = .ok (.aload_n 0, 1) := by decide +kernel
theorem dX7_init_66 : decode cX7_init 66 = .ok (.iconst 2, 1) := by decide +kernel
theorem dX7_init_67 : decode cX7_init 67 = .ok (.newarray .int, 2) := by decide +kernel
theorem dX7_init_69 : decode cX7_init 69 = .ok (.putfield 32, 3) := by decide +kernel
theorem dX7_init_72 : decode cX7_init 72 = .ok (.aload_n 0, 1) := by decide +kernel
theorem dX7_init_73 : decode cX7_init 73 = .ok (.bipush 64, 2) := by decide +kernel
theorem dX7_init_75 : decode cX7_init 75 = .ok (.newarray .int, 2) := by decide +kernel
theorem dX7_init_77 : decode cX7_init 77 = .ok (.putfield 35, 3) := by decide +kernel
theorem dX7_init_80 : decode cX7_init 80 = .ok (.aload_n 0, 1) := by decide +kernel
theorem dX7_init_81 : decode cX7_init 81 = .ok (.iconst 2, 1) := by decide +kernel
theorem dX7_init_82 : decode cX7_init 82 = .ok (.newarray .int, 2) := by decide +kernel
theorem dX7_init_84 : decode cX7_init 84 = .ok (.putfield 38, 3) := by decide +kernel
theorem dX7_init_87 : decode cX7_init 87 = .ok (.aload_n 0, 1) := by decide +kernel
theorem dX7_init_88 : decode cX7_init 88 = .ok (.bipush 44, 2) := by decide +kernel
theorem dX7_init_90 : decode cX7_init 90 = .ok (.newarray .int, 2) := by decide +kernel
theorem dX7_init_92 : decode cX7_init 92 = .ok (.putfield 41, 3) := by decide +kernel
theorem dX7_init_95 : decode cX7_init 95 = .ok (.aload_n 0, 1) := by decide +kernel
theorem dX7_init_96 : decode cX7_init 96 = .ok (.bipush 44, 2) := by decide +kernel
theorem dX7_init_98 : decode cX7_init 98 = .ok (.newarray .int, 2) := by decide +kernel
theorem dX7_init_100 : decode cX7_init 100 = .ok (.putfield 44, 3) := by decide +kernel
theorem dX7_init_103 : decode cX7_init 103 = .ok (.aload_n 0, 1) := by decide +kernel
theorem dX7_init_104 : decode cX7_init 104 = .ok (.iconst 2, 1) := by decide +kernel
theorem dX7_init_105 : decode cX7_init 105 = .ok (.newarray .int, 2) := by decide +kernel
theorem dX7_init_107 : decode cX7_init 107 = .ok (.putfield 47, 3) := by decide +kernel
theorem dX7_init_110 : decode cX7_init 110 = .ok (.aload_n 0, 1) := by decide +kernel
theorem dX7_init_111 : decode cX7_init 111 = .ok (.bipush 80, 2) := by decide +kernel
theorem dX7_init_113 : decode cX7_init 113 = .ok (.newarray .int, 2) := by decide +kernel
theorem dX7_init_115 : decode cX7_init 115 = .ok (.putfield 50, 3) := by decide +kernel
theorem dX7_init_118 : decode cX7_init 118 = .ok (.aload_n 0, 1) := by decide +kernel
theorem dX7_init_119 : decode cX7_init 119 = .ok (.bipush 80, 2) := by decide +kernel
theorem dX7_init_121 : decode cX7_init 121 = .ok (.newarray .int, 2) := by decide +kernel
theorem dX7_init_123 : decode cX7_init 123 = .ok (.putfield 53, 3) := by decide +kernel
theorem dX7_init_126 : decode cX7_init 126 = .ok (.aload_n 0, 1) := by decide +kernel
theorem dX7_init_127 : decode cX7_init 127 = .ok (.bipush 32, 2) := by decide +kernel
theorem dX7_init_129 : decode cX7_init 129 = .ok (.newarray .int, 2) := by decide +kernel
theorem dX7_init_131 : decode cX7_init 131 = .ok (.putfield 56, 3) := by decide +kernel
theorem dX7_init_134 : decode cX7_init 134 = .ok (.aload_n 0, 1) := by decide +kernel
theorem dX7_init_135 : decode cX7_init 135 = .ok (.sipush 640, 3) := by decide +kernel
theorem dX7_init_138 : decode cX7_init 138 = .ok (.newarray .boolean, 2) := by decide +kernel
theorem dX7_init_140 : decode cX7_init 140 = .ok (.putfield 59, 3) := by decide +kernel
theorem dX7_init_143 : decode cX7_init 143 = .ok (.aload_n 0, 1) := by decide +kernel
theorem dX7_init_144 : decode cX7_init 144 = .ok (.sipush 640, 3) := by decide +kernel
theorem dX7_init_147 : decode cX7_init 147 = .ok (.newarray .long, 2) := by decide +kernel
theorem dX7_init_149 : decode cX7_init 149 = .ok (.putfield 63, 3) := by decide +kernel
theorem dX7_init_152 : decode cX7_init 152 = .ok (.aload_n 0, 1) := by decide +kernel
theorem dX7_init_153 : decode cX7_init 153 = .ok (.sipush 640, 3) := by decide +kernel
theorem dX7_init_156 : decode cX7_init 156 = .ok (.newarray .long, 2) := by decide +kernel
theorem dX7_init_158 : decode cX7_init 158 = .ok (.putfield 66, 3) := by decide +kernel
theorem dX7_init_161 : decode cX7_init 161 = .ok (.aload_n 0, 1) := by decide +kernel
theorem dX7_init_162 : decode cX7_init 162 = .ok (.sipush 6000, 3) := by decide +kernel
theorem dX7_init_165 : decode cX7_init 165 = .ok (.newarray .int, 2) := by decide +kernel
theorem dX7_init_167 : decode cX7_init 167 = .ok (.putfield 69, 3) := by decide +kernel
theorem dX7_init_170 : decode cX7_init 170 = .ok (.return_, 1) := by decide +kernel
theorem dX7_thrown_0 : decode cX7_thrown 0 = .ok (.aload_n 0, 1) := by decide +kernel
theorem dX7_thrown_1 : decode cX7_thrown 1 = .ok (.getfield 72, 3) := by decide +kernel
theorem dX7_thrown_4 : decode cX7_thrown 4 = .ok (.ireturn, 1) := by decide +kernel
theorem dX7_unit_0 : decode cX7_unit 0 = .ok (.aload_n 0, 1) := by decide +kernel
theorem dX7_unit_1 : decode cX7_unit 1 = .ok (.iconst 0, 1) := by decide +kernel
theorem dX7_unit_2 : decode cX7_unit 2 = .ok (.putfield 72, 3) := by decide +kernel
theorem dX7_unit_5 : decode cX7_unit 5 = .ok (.iload_n 1, 1) := by decide +kernel
theorem dX7_unit_6 : decode cX7_unit 6 = .ok (.bipush 32, 2) := by decide +kernel
theorem dX7_unit_8 : decode cX7_unit 8 = .ok (.if_icmp .lt 9, 3) := by decide +kernel
theorem dX7_unit_11 : decode cX7_unit 11 = .ok (.iload_n 1, 1) := by decide +kernel
theorem dX7_unit_12 : decode cX7_unit 12 = .ok (.bipush 126, 2) := by decide +kernel
theorem dX7_unit_14 : decode cX7_unit 14 = .ok (.if_icmp .le 9, 3) := by decide +kernel
theorem dX7_unit_17 : decode cX7_unit 17 = .ok (.iload_n 1, 1) := by decide +kernel
theorem dX7_unit_18 : decode cX7_unit 18 = .ok (.bipush 10, 2) := by decide +kernel
theorem dX7_unit_20 : decode cX7_unit 20 = .ok (.if_icmp .ne 7, 3) := by decide +kernel
theorem dX7_unit_23 : decode cX7_unit 23 = .ok (.iconst 1, 1) := by decide +kernel
theorem dX7_unit_24 : decode cX7_unit 24 = .ok (.goto 4, 3) := by decide +kernel
theorem dX7_unit_27 : decode cX7_unit 27 = .ok (.iconst 0, 1) := by decide +kernel
theorem dX7_unit_28 : decode cX7_unit 28 = .ok (.istore_n 2, 1) := by decide +kernel
theorem dX7_unit_29 : decode cX7_unit 29 = .ok (.iload_n 2, 1) := by decide +kernel
theorem dX7_unit_30 : decode cX7_unit 30 = .ok (.ifCond .eq 13, 3) := by decide +kernel
theorem dX7_unit_33 : decode cX7_unit 33 = .ok (.aload_n 0, 1) := by decide +kernel
theorem dX7_unit_34 : decode cX7_unit 34 = .ok (.getfield 76, 3) := by decide +kernel
theorem dX7_unit_37 : decode cX7_unit 37 = .ok (.sipush 3000, 3) := by decide +kernel
theorem dX7_unit_40 : decode cX7_unit 40 = .ok (.if_icmp .ne 5, 3) := by decide +kernel
theorem dX7_unit_43 : decode cX7_unit 43 = .ok (.iconst 0, 1) := by decide +kernel
theorem dX7_unit_44 : decode cX7_unit 44 = .ok (.ireturn, 1) := by decide +kernel
theorem dX7_unit_45 : decode cX7_unit 45 = .ok (.aload_n 0, 1) := by decide +kernel
theorem dX7_unit_46 : decode cX7_unit 46 = .ok (.getfield 7, 3) := by decide +kernel
theorem dX7_unit_49 : decode cX7_unit 49 = .ok (.aload_n 0, 1) := by decide +kernel
theorem dX7_unit_50 : decode cX7_unit 50 = .ok (.getfield 76, 3) := by decide +kernel
theorem dX7_unit_53 : decode cX7_unit 53 = .ok (.iload_n 1, 1) := by decide +kernel
theorem dX7_unit_54 : decode cX7_unit 54 = .ok (.iastore, 1) := by decide +kernel
theorem dX7_unit_55 : decode cX7_unit 55 = .ok (.aload_n 0, 1) := by decide +kernel
theorem dX7_unit_56 : decode cX7_unit 56 = .ok (.dup, 1) := by decide +kernel
theorem dX7_unit_57 : decode cX7_unit 57 = .ok (.getfield 76, 3) := by decide +kernel
theorem dX7_unit_60 : decode cX7_unit 60 = .ok (.iconst 1, 1) := by decide +kernel
theorem dX7_unit_61 : decode cX7_unit 61 = .ok (.iadd, 1) := by decide +kernel
theorem dX7_unit_62 : decode cX7_unit 62 = .ok (.putfield 76, 3) := by decide +kernel
theorem dX7_unit_65 : decode cX7_unit 65 = .ok (.iconst 1, 1) := by decide +kernel
theorem dX7_unit_66 : decode cX7_unit 66 = .ok (.ireturn, 1) := by decide +kernel
theorem dX7_c_0 : decode cX7_c 0 = .ok (.aload_n 0, 1) := by decide +kernel
theorem dX7_c_1 : decode cX7_c 1 = .ok (.getfield 79, 3) := by decide +kernel
theorem dX7_c_4 : decode cX7_c 4 = .ok (.aload_n 0, 1) := by decide +kernel
theorem dX7_c_5 : decode cX7_c 5 = .ok (.getfield 76, 3) := by decide +kernel
theorem dX7_c_8 : decode cX7_c 8 = .ok (.if_icmp .ge 15, 3) := by decide +kernel
theorem dX7_c_11 : decode cX7_c 11 = .ok (.aload_n 0, 1) := by decide +kernel
theorem dX7_c_12 : decode cX7_c 12 = .ok (.getfield 7, 3) := by decide +kernel
theorem dX7_c_15 : decode cX7_c 15 = .ok (.aload_n 0, 1) := by decide +kernel
theorem dX7_c_16 : decode cX7_c 16 = .ok (.getfield 79, 3) := by decide +kernel
theorem dX7_c_19 : decode cX7_c 19 = .ok (.iaload, 1) := by decide +kernel
theorem dX7_c_20 : decode cX7_c 20 = .ok (.goto 4, 3) := by decide +kernel
theorem dX7_c_23 : decode cX7_c 23 = .ok (.iconst (-1), 1) := by decide +kernel
theorem dX7_c_24 : decode cX7_c 24 = .ok (.ireturn, 1) := by decide +kernel
theorem dX7_good_0 : decode cX7_good 0 = .ok (.aload_n 0, 1) := by decide +kernel
theorem dX7_good_1 : decode cX7_good 1 = .ok (.getfield 82, 3) := by decide +kernel
theorem dX7_good_4 : decode cX7_good 4 = .ok (.iconst (-1), 1) := by decide +kernel
theorem dX7_good_5 : decode cX7_good 5 = .ok (.if_icmp .ne 7, 3) := by decide +kernel
theorem dX7_good_8 : decode cX7_good 8 = .ok (.iconst 1, 1) := by decide +kernel
theorem dX7_good_9 : decode cX7_good 9 = .ok (.goto 4, 3) := by decide +kernel
theorem dX7_good_12 : decode cX7_good 12 = .ok (.iconst 0, 1) := by decide +kernel
theorem dX7_good_13 : decode cX7_good 13 = .ok (.ireturn, 1) := by decide +kernel
theorem dX7_fail_0 : decode cX7_fail 0 = .ok (.aload_n 0, 1) := by decide +kernel
theorem dX7_fail_1 : decode cX7_fail 1 = .ok (.getfield 82, 3) := by decide +kernel
theorem dX7_fail_4 : decode cX7_fail 4 = .ok (.iconst (-1), 1) := by decide +kernel
theorem dX7_fail_5 : decode cX7_fail 5 = .ok (.if_icmp .ne 8, 3) := by decide +kernel
theorem dX7_fail_8 : decode cX7_fail 8 = .ok (.aload_n 0, 1) := by decide +kernel
theorem dX7_fail_9 : decode cX7_fail 9 = .ok (.iload_n 1, 1) := by decide +kernel
theorem dX7_fail_10 : decode cX7_fail 10 = .ok (.putfield 82, 3) := by decide +kernel
theorem dX7_fail_13 : decode cX7_fail 13 = .ok (.return_, 1) := by decide +kernel
set_option maxRecDepth 20000 in
theorem ggX7_expect_X7_good : GoodIn wsX7_expect wsX7_good := goodIn_r _ [6, 7, 18, 19, 20, 21, 22, 23, 24, 25, 26, 27, 28, 29, 30, 31, 32, 33, 34, 35, 36, 37, 38, 39, 40, 41, 42, 43, 44, 45, 46, 47, 48, 49, 50] (by decide +kernel) (by decide +kernel)
set_option maxRecDepth 20000 in
theorem gX7_expect_X7_good : GoodIn wsX7_expect (wsV RX7 85 RX7 yX7_good wsX7_good) := goodIn_app (goodIn_of _ (by decide +kernel)) ggX7_expect_X7_good
set_option maxRecDepth 20000 in
theorem ggX7_expect_X7_c : GoodIn wsX7_expect wsX7_c := goodIn_r _ [11, 1, 12, 13, 18, 19, 20, 21, 22, 23, 24, 25, 26, 27, 28, 29, 30, 31, 32, 33, 34, 35, 36, 37, 38, 39, 40, 41, 42, 43, 44, 45, 46, 47, 48, 49, 50] (by decide +kernel) (by decide +kernel)
set_option maxRecDepth 20000 in
theorem gX7_expect_X7_c : GoodIn wsX7_expect (wsV RX7 89 RX7 yX7_c wsX7_c) := goodIn_app (goodIn_of _ (by decide +kernel)) ggX7_expect_X7_c
set_option maxRecDepth 20000 in
theorem ggX7_expect_X7_fail : GoodIn wsX7_expect wsX7_fail := goodIn_r _ [17, 7, 18, 19, 20, 21, 22, 23, 24, 25, 26, 27, 28, 29, 30, 31, 32, 33, 34, 35, 36, 37, 38, 39, 40, 41, 42, 43, 44, 45, 46, 47, 48, 49, 50] (by decide +kernel) (by decide +kernel)
set_option maxRecDepth 20000 in
theorem gX7_expect_X7_fail : GoodIn wsX7_expect (wsV RX7 93 RX7 yX7_fail wsX7_fail) := goodIn_app (goodIn_of _ (by decide +kernel)) ggX7_expect_X7_fail
theorem dX7_expect_0 : decode cX7_expect 0 = .ok (.aload_n 0, 1) := by decide +kernel
theorem dX7_expect_1 : decode cX7_expect 1 = .ok (.invokevirtual 85, 3) := by decide +kernel
theorem dX7_expect_4 : decode cX7_expect 4 = .ok (.ifCond .eq 19, 3) := by decide +kernel
theorem dX7_expect_7 : decode cX7_expect 7 = .ok (.aload_n 0, 1) := by decide +kernel
theorem dX7_expect_8 : decode cX7_expect 8 = .ok (.invokevirtual 89, 3) := by decide +kernel
theorem dX7_expect_11 : decode cX7_expect 11 = .ok (.iload_n 1, 1) := by decide +kernel
theorem dX7_expect_12 : decode cX7_expect 12 = .ok (.if_icmp .eq 11, 3) := by decide +kernel
theorem dX7_expect_15 : decode cX7_expect 15 = .ok (.aload_n 0, 1) := by decide +kernel
theorem dX7_expect_16 : decode cX7_expect 16 = .ok (.aload_n 0, 1) := by decide +kernel
theorem dX7_expect_17 : decode cX7_expect 17 = .ok (.getfield 79, 3) := by decide +kernel
theorem dX7_expect_20 : decode cX7_expect 20 = .ok (.invokevirtual 93, 3) := by decide +kernel
theorem dX7_expect_23 : decode cX7_expect 23 = .ok (.aload_n 0, 1) := by decide +kernel
theorem dX7_expect_24 : decode cX7_expect 24 = .ok (.invokevirtual 85, 3) := by decide +kernel
theorem dX7_expect_27 : decode cX7_expect 27 = .ok (.ifCond .eq 13, 3) := by decide +kernel
theorem dX7_expect_30 : decode cX7_expect 30 = .ok (.aload_n 0, 1) := by decide +kernel
theorem dX7_expect_31 : decode cX7_expect 31 = .ok (.dup, 1) := by decide +kernel
theorem dX7_expect_32 : decode cX7_expect 32 = .ok (.getfield 79, 3) := by decide +kernel
theorem dX7_expect_35 : decode cX7_expect 35 = .ok (.iconst 1, 1) := by decide +kernel
theorem dX7_expect_36 : decode cX7_expect 36 = .ok (.iadd, 1) := by decide +kernel
theorem dX7_expect_37 : decode cX7_expect 37 = .ok (.putfield 79, 3) := by decide +kernel
theorem dX7_expect_40 : decode cX7_expect 40 = .ok (.return_, 1) := by decide +kernel
theorem dX7_spelt_0 : decode cX7_spelt 0 = .ok (.iload_n 0, 1) := by decide +kernel
theorem dX7_spelt_1 : decode cX7_spelt 1 = .ok (.i2l, 1) := by decide +kernel
theorem dX7_spelt_2 : decode cX7_spelt 2 = .ok (.ldc2_w 97, 3) := by decide +kernel
theorem dX7_spelt_5 : decode cX7_spelt 5 = .ok (.lmul, 1) := by decide +kernel
theorem dX7_spelt_6 : decode cX7_spelt 6 = .ok (.iload_n 1, 1) := by decide +kernel
theorem dX7_spelt_7 : decode cX7_spelt 7 = .ok (.i2l, 1) := by decide +kernel
theorem dX7_spelt_8 : decode cX7_spelt 8 = .ok (.ladd, 1) := by decide +kernel
theorem dX7_spelt_9 : decode cX7_spelt 9 = .ok (.ldc2_w 97, 3) := by decide +kernel
theorem dX7_spelt_12 : decode cX7_spelt 12 = .ok (.lmul, 1) := by decide +kernel
theorem dX7_spelt_13 : decode cX7_spelt 13 = .ok (.iload_n 2, 1) := by decide +kernel
theorem dX7_spelt_14 : decode cX7_spelt 14 = .ok (.i2l, 1) := by decide +kernel
theorem dX7_spelt_15 : decode cX7_spelt 15 = .ok (.ladd, 1) := by decide +kernel
theorem dX7_spelt_16 : decode cX7_spelt 16 = .ok (.ldc2_w 97, 3) := by decide +kernel
theorem dX7_spelt_19 : decode cX7_spelt 19 = .ok (.lmul, 1) := by decide +kernel
theorem dX7_spelt_20 : decode cX7_spelt 20 = .ok (.iload_n 3, 1) := by decide +kernel
theorem dX7_spelt_21 : decode cX7_spelt 21 = .ok (.i2l, 1) := by decide +kernel
theorem dX7_spelt_22 : decode cX7_spelt 22 = .ok (.ladd, 1) := by decide +kernel
theorem dX7_spelt_23 : decode cX7_spelt 23 = .ok (.ldc2_w 97, 3) := by decide +kernel
theorem dX7_spelt_26 : decode cX7_spelt 26 = .ok (.lmul, 1) := by decide +kernel
theorem dX7_spelt_27 : decode cX7_spelt 27 = .ok (.iload 4, 2) := by decide +kernel
theorem dX7_spelt_29 : decode cX7_spelt 29 = .ok (.i2l, 1) := by decide +kernel
theorem dX7_spelt_30 : decode cX7_spelt 30 = .ok (.ladd, 1) := by decide +kernel
theorem dX7_spelt_31 : decode cX7_spelt 31 = .ok (.ldc2_w 97, 3) := by decide +kernel
theorem dX7_spelt_34 : decode cX7_spelt 34 = .ok (.lmul, 1) := by decide +kernel
theorem dX7_spelt_35 : decode cX7_spelt 35 = .ok (.iload 5, 2) := by decide +kernel
theorem dX7_spelt_37 : decode cX7_spelt 37 = .ok (.i2l, 1) := by decide +kernel
theorem dX7_spelt_38 : decode cX7_spelt 38 = .ok (.ladd, 1) := by decide +kernel
theorem dX7_spelt_39 : decode cX7_spelt 39 = .ok (.lstore 7, 2) := by decide +kernel
theorem dX7_spelt_41 : decode cX7_spelt 41 = .ok (.lload 7, 2) := by decide +kernel
theorem dX7_spelt_43 : decode cX7_spelt 43 = .ok (.ldc2_w 97, 3) := by decide +kernel
theorem dX7_spelt_46 : decode cX7_spelt 46 = .ok (.lmul, 1) := by decide +kernel
theorem dX7_spelt_47 : decode cX7_spelt 47 = .ok (.iload 6, 2) := by decide +kernel
theorem dX7_spelt_49 : decode cX7_spelt 49 = .ok (.i2l, 1) := by decide +kernel
theorem dX7_spelt_50 : decode cX7_spelt 50 = .ok (.ladd, 1) := by decide +kernel
theorem dX7_spelt_51 : decode cX7_spelt 51 = .ok (.lreturn, 1) := by decide +kernel
set_option maxRecDepth 20000 in
theorem ggX7_letters_X7_spelt : GoodIn wsX7_letters wsX7_spelt := goodIn_r _ [4, 5] (by decide +kernel) (by decide +kernel)
set_option maxRecDepth 20000 in
theorem gX7_letters_X7_spelt : GoodIn wsX7_letters (va_wsS RX7 99 yX7_spelt wsX7_spelt) := goodIn_app (goodIn_of _ (by decide +kernel)) ggX7_letters_X7_spelt
theorem dX7_letters_0 : decode cX7_letters 0 = .ok (.iload_n 0, 1) := by decide +kernel
theorem dX7_letters_1 : decode cX7_letters 1 = .ok (.tableswitch 126 0 5 #[39, 54, 67, 83, 97, 111], 39) := by decide +kernel
theorem dX7_letters_40 : decode cX7_letters 40 = .ok (.iconst 3, 1) := by decide +kernel
theorem dX7_letters_41 : decode cX7_letters 41 = .ok (.bipush 15, 2) := by decide +kernel
theorem dX7_letters_43 : decode cX7_letters 43 = .ok (.bipush 16, 2) := by decide +kernel
theorem dX7_letters_45 : decode cX7_letters 45 = .ok (.bipush 16, 2) := by decide +kernel
theorem dX7_letters_47 : decode cX7_letters 47 = .ok (.iconst 5, 1) := by decide +kernel
theorem dX7_letters_48 : decode cX7_letters 48 = .ok (.bipush 18, 2) := by decide +kernel
theorem dX7_letters_50 : decode cX7_letters 50 = .ok (.iconst 0, 1) := by decide +kernel
theorem dX7_letters_51 : decode cX7_letters 51 = .ok (.invokestatic 99, 3) := by decide +kernel
theorem dX7_letters_54 : decode cX7_letters 54 = .ok (.lreturn, 1) := by decide +kernel
theorem dX7_letters_55 : decode cX7_letters 55 = .ok (.iconst 3, 1) := by decide +kernel
theorem dX7_letters_56 : decode cX7_letters 56 = .ok (.bipush 15, 2) := by decide +kernel
theorem dX7_letters_58 : decode cX7_letters 58 = .ok (.bipush 18, 2) := by decide +kernel
theorem dX7_letters_60 : decode cX7_letters 60 = .ok (.iconst 5, 1) := by decide +kernel
theorem dX7_letters_61 : decode cX7_letters 61 = .ok (.iconst 0, 1) := by decide +kernel
theorem dX7_letters_62 : decode cX7_letters 62 = .ok (.iconst 0, 1) := by decide +kernel
theorem dX7_letters_63 : decode cX7_letters 63 = .ok (.iconst 0, 1) := by decide +kernel
theorem dX7_letters_64 : decode cX7_letters 64 = .ok (.invokestatic 99, 3) := by decide +kernel
theorem dX7_letters_67 : decode cX7_letters 67 = .ok (.lreturn, 1) := by decide +kernel
theorem dX7_letters_68 : decode cX7_letters 68 = .ok (.bipush 16, 2) := by decide +kernel
theorem dX7_letters_70 : decode cX7_letters 70 = .ok (.bipush 18, 2) := by decide +kernel
theorem dX7_letters_72 : decode cX7_letters 72 = .ok (.iconst 5, 1) := by decide +kernel
theorem dX7_letters_73 : decode cX7_letters 73 = .ok (.bipush 16, 2) := by decide +kernel
theorem dX7_letters_75 : decode cX7_letters 75 = .ok (.bipush 18, 2) := by decide +kernel
theorem dX7_letters_77 : decode cX7_letters 77 = .ok (.iconst 5, 1) := by decide +kernel
theorem dX7_letters_78 : decode cX7_letters 78 = .ok (.bipush 7, 2) := by decide +kernel
theorem dX7_letters_80 : decode cX7_letters 80 = .ok (.invokestatic 99, 3) := by decide +kernel
theorem dX7_letters_83 : decode cX7_letters 83 = .ok (.lreturn, 1) := by decide +kernel
theorem dX7_letters_84 : decode cX7_letters 84 = .ok (.bipush 13, 2) := by decide +kernel
theorem dX7_letters_86 : decode cX7_letters 86 = .ok (.iconst 1, 1) := by decide +kernel
theorem dX7_letters_87 : decode cX7_letters 87 = .ok (.bipush 19, 2) := by decide +kernel
theorem dX7_letters_89 : decode cX7_letters 89 = .ok (.bipush 11, 2) := by decide +kernel
theorem dX7_letters_91 : decode cX7_letters 91 = .ok (.iconst 0, 1) := by decide +kernel
theorem dX7_letters_92 : decode cX7_letters 92 = .ok (.iconst 0, 1) := by decide +kernel
theorem dX7_letters_93 : decode cX7_letters 93 = .ok (.iconst 0, 1) := by decide +kernel
theorem dX7_letters_94 : decode cX7_letters 94 = .ok (.invokestatic 99, 3) := by decide +kernel
theorem dX7_letters_97 : decode cX7_letters 97 = .ok (.lreturn, 1) := by decide +kernel
theorem dX7_letters_98 : decode cX7_letters 98 = .ok (.bipush 19, 2) := by decide +kernel
theorem dX7_letters_100 : decode cX7_letters 100 = .ok (.bipush 16, 2) := by decide +kernel
theorem dX7_letters_102 : decode cX7_letters 102 = .ok (.iconst 1, 1) := by decide +kernel
theorem dX7_letters_103 : decode cX7_letters 103 = .ok (.bipush 18, 2) := by decide +kernel
theorem dX7_letters_105 : decode cX7_letters 105 = .ok (.iconst 5, 1) := by decide +kernel
theorem dX7_letters_106 : decode cX7_letters 106 = .ok (.iconst 0, 1) := by decide +kernel
theorem dX7_letters_107 : decode cX7_letters 107 = .ok (.iconst 0, 1) := by decide +kernel
theorem dX7_letters_108 : decode cX7_letters 108 = .ok (.invokestatic 99, 3) := by decide +kernel
theorem dX7_letters_111 : decode cX7_letters 111 = .ok (.lreturn, 1) := by decide +kernel
theorem dX7_letters_112 : decode cX7_letters 112 = .ok (.bipush 16, 2) := by decide +kernel
theorem dX7_letters_114 : decode cX7_letters 114 = .ok (.bipush 18, 2) := by decide +kernel
theorem dX7_letters_116 : decode cX7_letters 116 = .ok (.iconst 5, 1) := by decide +kernel
theorem dX7_letters_117 : decode cX7_letters 117 = .ok (.bipush 19, 2) := by decide +kernel
theorem dX7_letters_119 : decode cX7_letters 119 = .ok (.bipush 19, 2) := by decide +kernel
theorem dX7_letters_121 : decode cX7_letters 121 = .ok (.iconst 0, 1) := by decide +kernel
theorem dX7_letters_122 : decode cX7_letters 122 = .ok (.iconst 0, 1) := by decide +kernel
theorem dX7_letters_123 : decode cX7_letters 123 = .ok (.invokestatic 99, 3) := by decide +kernel
theorem dX7_letters_126 : decode cX7_letters 126 = .ok (.lreturn, 1) := by decide +kernel
theorem dX7_letters_127 : decode cX7_letters 127 = .ok (.bipush 22, 2) := by decide +kernel
theorem dX7_letters_129 : decode cX7_letters 129 = .ok (.bipush 9, 2) := by decide +kernel
theorem dX7_letters_131 : decode cX7_letters 131 = .ok (.iconst 1, 1) := by decide +kernel
theorem dX7_letters_132 : decode cX7_letters 132 = .ok (.iconst 0, 1) := by decide +kernel
theorem dX7_letters_133 : decode cX7_letters 133 = .ok (.iconst 0, 1) := by decide +kernel
theorem dX7_letters_134 : decode cX7_letters 134 = .ok (.iconst 0, 1) := by decide +kernel
theorem dX7_letters_135 : decode cX7_letters 135 = .ok (.iconst 0, 1) := by decide +kernel
theorem dX7_letters_136 : decode cX7_letters 136 = .ok (.invokestatic 99, 3) := by decide +kernel
theorem dX7_letters_139 : decode cX7_letters 139 = .ok (.lreturn, 1) := by decide +kernel
set_option maxRecDepth 20000 in
theorem ggX7_letter_X7_letters : GoodIn wsX7_letter wsX7_letters := goodIn_r _ [5, 6, 7, 4, 8, 9] (by decide +kernel) (by decide +kernel)
set_option maxRecDepth 20000 in
theorem gX7_letter_X7_letters : GoodIn wsX7_letter (va_wsS RX7 103 yX7_letters wsX7_letters) := goodIn_app (goodIn_of _ (by decide +kernel)) ggX7_letter_X7_letters
theorem dX7_letter_0 : decode cX7_letter 0 = .ok (.iload_n 1, 1) := by decide +kernel
theorem dX7_letter_1 : decode cX7_letter 1 = .ok (.bipush 6, 2) := by decide +kernel
theorem dX7_letter_3 : decode cX7_letter 3 = .ok (.if_icmp .le 7, 3) := by decide +kernel
theorem dX7_letter_6 : decode cX7_letter 6 = .ok (.iconst 0, 1) := by decide +kernel
theorem dX7_letter_7 : decode cX7_letter 7 = .ok (.goto 19, 3) := by decide +kernel
theorem dX7_letter_10 : decode cX7_letter 10 = .ok (.iload_n 0, 1) := by decide +kernel
theorem dX7_letter_11 : decode cX7_letter 11 = .ok (.invokestatic 103, 3) := by decide +kernel
theorem dX7_letter_14 : decode cX7_letter 14 = .ok (.iconst 5, 1) := by decide +kernel
theorem dX7_letter_15 : decode cX7_letter 15 = .ok (.bipush 6, 2) := by decide +kernel
theorem dX7_letter_17 : decode cX7_letter 17 = .ok (.iload_n 1, 1) := by decide +kernel
theorem dX7_letter_18 : decode cX7_letter 18 = .ok (.isub, 1) := by decide +kernel
theorem dX7_letter_19 : decode cX7_letter 19 = .ok (.imul, 1) := by decide +kernel
theorem dX7_letter_20 : decode cX7_letter 20 = .ok (.lshr, 1) := by decide +kernel
theorem dX7_letter_21 : decode cX7_letter 21 = .ok (.ldc2_w 107, 3) := by decide +kernel
theorem dX7_letter_24 : decode cX7_letter 24 = .ok (.land, 1) := by decide +kernel
theorem dX7_letter_25 : decode cX7_letter 25 = .ok (.l2i, 1) := by decide +kernel
theorem dX7_letter_26 : decode cX7_letter 26 = .ok (.ireturn, 1) := by decide +kernel
