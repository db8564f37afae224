set_option maxRecDepth 20000 in
theorem ggX7_firstWord_X7_good : GoodIn wsX7_firstWord wsX7_good := goodIn_r _ [6, 7, 29, 30, 31, 32, 33, 34, 35, 36, 37, 38, 39, 40, 41, 42, 43, 44, 45, 46, 47, 48, 49, 50, 51, 52, 53, 54, 55, 56, 57, 58, 59, 60, 61] (by decide +kernel) (by decide +kernel)
set_option maxRecDepth 20000 in
theorem gX7_firstWord_X7_good : GoodIn wsX7_firstWord (wsV RX7 85 RX7 yX7_good wsX7_good) := goodIn_app (goodIn_of _ (by decide +kernel)) ggX7_firstWord_X7_good
set_option maxRecDepth 20000 in
theorem ggX7_firstWord_X7_c : GoodIn wsX7_firstWord wsX7_c := goodIn_r _ [11, 1, 12, 13, 29, 30, 31, 32, 33, 34, 35, 36, 37, 38, 39, 40, 41, 42, 43, 44, 45, 46, 47, 48, 49, 50, 51, 52, 53, 54, 55, 56, 57, 58, 59, 60, 61] (by decide +kernel) (by decide +kernel)
set_option maxRecDepth 20000 in
theorem gX7_firstWord_X7_c : GoodIn wsX7_firstWord (wsV RX7 89 RX7 yX7_c wsX7_c) := goodIn_app (goodIn_of _ (by decide +kernel)) ggX7_firstWord_X7_c
set_option maxRecDepth 20000 in
theorem ggX7_firstWord_X7_letter : GoodIn wsX7_firstWord wsX7_letter := goodIn_r _ [16, 17, 18, 19, 5, 20, 21, 22, 23, 24] (by decide +kernel) (by decide +kernel)
set_option maxRecDepth 20000 in
theorem gX7_firstWord_X7_letter : GoodIn wsX7_firstWord (va_wsS RX7 109 yX7_letter wsX7_letter) := goodIn_app (goodIn_of _ (by decide +kernel)) ggX7_firstWord_X7_letter
set_option maxRecDepth 20000 in
theorem ggX7_firstWord_X7_fail : GoodIn wsX7_firstWord wsX7_fail := goodIn_r _ [28, 7, 29, 30, 31, 32, 33, 34, 35, 36, 37, 38, 39, 40, 41, 42, 43, 44, 45, 46, 47, 48, 49, 50, 51, 52, 53, 54, 55, 56, 57, 58, 59, 60, 61] (by decide +kernel) (by decide +kernel)
set_option maxRecDepth 20000 in
theorem gX7_firstWord_X7_fail : GoodIn wsX7_firstWord (wsV RX7 93 RX7 yX7_fail wsX7_fail) := goodIn_app (goodIn_of _ (by decide +kernel)) ggX7_firstWord_X7_fail
theorem dX7_firstWord_0 : decode cX7_firstWord 0 = .ok (.bipush 127, 2) := by decide +kernel
theorem dX7_firstWord_2 : decode cX7_firstWord 2 = .ok (.istore_n 1, 1) := by decide +kernel
theorem dX7_firstWord_3 : decode cX7_firstWord 3 = .ok (.iconst 0, 1) := by decide +kernel
theorem dX7_firstWord_4 : decode cX7_firstWord 4 = .ok (.istore_n 2, 1) := by decide +kernel
theorem dX7_firstWord_5 : decode cX7_firstWord 5 = .ok (.aload_n 0, 1) := by decide +kernel
theorem dX7_firstWord_6 : decode cX7_firstWord 6 = .ok (.invokevirtual 85, 3) := by decide +kernel
theorem dX7_firstWord_9 : decode cX7_firstWord 9 = .ok (.ifCond .eq 159, 3) := by decide +kernel
theorem dX7_firstWord_12 : decode cX7_firstWord 12 = .ok (.aload_n 0, 1) := by decide +kernel
theorem dX7_firstWord_13 : decode cX7_firstWord 13 = .ok (.invokevirtual 89, 3) := by decide +kernel
theorem dX7_firstWord_16 : decode cX7_firstWord 16 = .ok (.istore_n 3, 1) := by decide +kernel
theorem dX7_firstWord_17 : decode cX7_firstWord 17 = .ok (.iconst 0, 1) := by decide +kernel
theorem dX7_firstWord_18 : decode cX7_firstWord 18 = .ok (.istore 4, 2) := by decide +kernel
theorem dX7_firstWord_20 : decode cX7_firstWord 20 = .ok (.iconst 0, 1) := by decide +kernel
theorem dX7_firstWord_21 : decode cX7_firstWord 21 = .ok (.istore 5, 2) := by decide +kernel
theorem dX7_firstWord_23 : decode cX7_firstWord 23 = .ok (.iload 5, 2) := by decide +kernel
theorem dX7_firstWord_25 : decode cX7_firstWord 25 = .ok (.bipush 7, 2) := by decide +kernel
theorem dX7_firstWord_27 : decode cX7_firstWord 27 = .ok (.if_icmp .ge 67, 3) := by decide +kernel
theorem dX7_firstWord_30 : decode cX7_firstWord 30 = .ok (.iload 5, 2) := by decide +kernel
theorem dX7_firstWord_32 : decode cX7_firstWord 32 = .ok (.iload_n 2, 1) := by decide +kernel
theorem dX7_firstWord_33 : decode cX7_firstWord 33 = .ok (.invokestatic 109, 3) := by decide +kernel
theorem dX7_firstWord_36 : decode cX7_firstWord 36 = .ok (.istore 6, 2) := by decide +kernel
theorem dX7_firstWord_38 : decode cX7_firstWord 38 = .ok (.iload_n 1, 1) := by decide +kernel
theorem dX7_firstWord_39 : decode cX7_firstWord 39 = .ok (.iload 5, 2) := by decide +kernel
theorem dX7_firstWord_41 : decode cX7_firstWord 41 = .ok (.ishr, 1) := by decide +kernel
theorem dX7_firstWord_42 : decode cX7_firstWord 42 = .ok (.iconst 1, 1) := by decide +kernel
theorem dX7_firstWord_43 : decode cX7_firstWord 43 = .ok (.iand, 1) := by decide +kernel
theorem dX7_firstWord_44 : decode cX7_firstWord 44 = .ok (.iconst 1, 1) := by decide +kernel
theorem dX7_firstWord_45 : decode cX7_firstWord 45 = .ok (.if_icmp .ne 21, 3) := by decide +kernel
theorem dX7_firstWord_48 : decode cX7_firstWord 48 = .ok (.iload 6, 2) := by decide +kernel
theorem dX7_firstWord_50 : decode cX7_firstWord 50 = .ok (.ifCond .le 16, 3) := by decide +kernel
theorem dX7_firstWord_53 : decode cX7_firstWord 53 = .ok (.iload_n 3, 1) := by decide +kernel
theorem dX7_firstWord_54 : decode cX7_firstWord 54 = .ok (.bipush 96, 2) := by decide +kernel
theorem dX7_firstWord_56 : decode cX7_firstWord 56 = .ok (.iload 6, 2) := by decide +kernel
theorem dX7_firstWord_58 : decode cX7_firstWord 58 = .ok (.iadd, 1) := by decide +kernel
theorem dX7_firstWord_59 : decode cX7_firstWord 59 = .ok (.if_icmp .ne 7, 3) := by decide +kernel
theorem dX7_firstWord_62 : decode cX7_firstWord 62 = .ok (.iconst 1, 1) := by decide +kernel
theorem dX7_firstWord_63 : decode cX7_firstWord 63 = .ok (.goto 4, 3) := by decide +kernel
theorem dX7_firstWord_66 : decode cX7_firstWord 66 = .ok (.iconst 0, 1) := by decide +kernel
theorem dX7_firstWord_67 : decode cX7_firstWord 67 = .ok (.istore 7, 2) := by decide +kernel
theorem dX7_firstWord_69 : decode cX7_firstWord 69 = .ok (.iload 7, 2) := by decide +kernel
theorem dX7_firstWord_71 : decode cX7_firstWord 71 = .ok (.ifCond .eq 13, 3) := by decide +kernel
theorem dX7_firstWord_74 : decode cX7_firstWord 74 = .ok (.iload 4, 2) := by decide +kernel
theorem dX7_firstWord_76 : decode cX7_firstWord 76 = .ok (.iconst 1, 1) := by decide +kernel
theorem dX7_firstWord_77 : decode cX7_firstWord 77 = .ok (.iload 5, 2) := by decide +kernel
theorem dX7_firstWord_79 : decode cX7_firstWord 79 = .ok (.ishl, 1) := by decide +kernel
theorem dX7_firstWord_80 : decode cX7_firstWord 80 = .ok (.ior, 1) := by decide +kernel
theorem dX7_firstWord_81 : decode cX7_firstWord 81 = .ok (.goto 5, 3) := by decide +kernel
theorem dX7_firstWord_84 : decode cX7_firstWord 84 = .ok (.iload 4, 2) := by decide +kernel
theorem dX7_firstWord_86 : decode cX7_firstWord 86 = .ok (.istore 4, 2) := by decide +kernel
theorem dX7_firstWord_88 : decode cX7_firstWord 88 = .ok (.iinc 5 1, 3) := by decide +kernel
theorem dX7_firstWord_91 : decode cX7_firstWord 91 = .ok (.goto (-68), 3) := by decide +kernel
theorem dX7_firstWord_94 : decode cX7_firstWord 94 = .ok (.iload 4, 2) := by decide +kernel
theorem dX7_firstWord_96 : decode cX7_firstWord 96 = .ok (.ifCond .ne 14, 3) := by decide +kernel
theorem dX7_firstWord_99 : decode cX7_firstWord 99 = .ok (.aload_n 0, 1) := by decide +kernel
theorem dX7_firstWord_100 : decode cX7_firstWord 100 = .ok (.aload_n 0, 1) := by decide +kernel
theorem dX7_firstWord_101 : decode cX7_firstWord 101 = .ok (.getfield 79, 3) := by decide +kernel
theorem dX7_firstWord_104 : decode cX7_firstWord 104 = .ok (.invokevirtual 93, 3) := by decide +kernel
theorem dX7_firstWord_107 : decode cX7_firstWord 107 = .ok (.goto 58, 3) := by decide +kernel
theorem dX7_firstWord_110 : decode cX7_firstWord 110 = .ok (.aload_n 0, 1) := by decide +kernel
theorem dX7_firstWord_111 : decode cX7_firstWord 111 = .ok (.dup, 1) := by decide +kernel
theorem dX7_firstWord_112 : decode cX7_firstWord 112 = .ok (.getfield 79, 3) := by decide +kernel
theorem dX7_firstWord_115 : decode cX7_firstWord 115 = .ok (.iconst 1, 1) := by decide +kernel
theorem dX7_firstWord_116 : decode cX7_firstWord 116 = .ok (.iadd, 1) := by decide +kernel
theorem dX7_firstWord_117 : decode cX7_firstWord 117 = .ok (.putfield 79, 3) := by decide +kernel
theorem dX7_firstWord_120 : decode cX7_firstWord 120 = .ok (.iload 4, 2) := by decide +kernel
theorem dX7_firstWord_122 : decode cX7_firstWord 122 = .ok (.istore_n 1, 1) := by decide +kernel
theorem dX7_firstWord_123 : decode cX7_firstWord 123 = .ok (.iinc 2 1, 3) := by decide +kernel
theorem dX7_firstWord_126 : decode cX7_firstWord 126 = .ok (.iconst 0, 1) := by decide +kernel
theorem dX7_firstWord_127 : decode cX7_firstWord 127 = .ok (.istore 5, 2) := by decide +kernel
theorem dX7_firstWord_129 : decode cX7_firstWord 129 = .ok (.iload 5, 2) := by decide +kernel
theorem dX7_firstWord_131 : decode cX7_firstWord 131 = .ok (.bipush 7, 2) := by decide +kernel
theorem dX7_firstWord_133 : decode cX7_firstWord 133 = .ok (.if_icmp .ge 32, 3) := by decide +kernel
theorem dX7_firstWord_136 : decode cX7_firstWord 136 = .ok (.iload 4, 2) := by decide +kernel
theorem dX7_firstWord_138 : decode cX7_firstWord 138 = .ok (.iload 5, 2) := by decide +kernel
theorem dX7_firstWord_140 : decode cX7_firstWord 140 = .ok (.ishr, 1) := by decide +kernel
theorem dX7_firstWord_141 : decode cX7_firstWord 141 = .ok (.iconst 1, 1) := by decide +kernel
theorem dX7_firstWord_142 : decode cX7_firstWord 142 = .ok (.iand, 1) := by decide +kernel
theorem dX7_firstWord_143 : decode cX7_firstWord 143 = .ok (.iconst 1, 1) := by decide +kernel
theorem dX7_firstWord_144 : decode cX7_firstWord 144 = .ok (.if_icmp .ne 15, 3) := by decide +kernel
theorem dX7_firstWord_147 : decode cX7_firstWord 147 = .ok (.iload 5, 2) := by decide +kernel
theorem dX7_firstWord_149 : decode cX7_firstWord 149 = .ok (.iload_n 2, 1) := by decide +kernel
theorem dX7_firstWord_150 : decode cX7_firstWord 150 = .ok (.invokestatic 109, 3) := by decide +kernel
theorem dX7_firstWord_153 : decode cX7_firstWord 153 = .ok (.ifCond .ne 6, 3) := by decide +kernel
theorem dX7_firstWord_156 : decode cX7_firstWord 156 = .ok (.iload 5, 2) := by decide +kernel
theorem dX7_firstWord_158 : decode cX7_firstWord 158 = .ok (.ireturn, 1) := by decide +kernel
theorem dX7_firstWord_159 : decode cX7_firstWord 159 = .ok (.iinc 5 1, 3) := by decide +kernel
theorem dX7_firstWord_162 : decode cX7_firstWord 162 = .ok (.goto (-33), 3) := by decide +kernel
theorem dX7_firstWord_165 : decode cX7_firstWord 165 = .ok (.goto (-160), 3) := by decide +kernel
theorem dX7_firstWord_168 : decode cX7_firstWord 168 = .ok (.iconst (-1), 1) := by decide +kernel
theorem dX7_firstWord_169 : decode cX7_firstWord 169 = .ok (.ireturn, 1) := by decide +kernel
theorem dX7_isSign_0 : decode cX7_isSign 0 = .ok (.iload_n 0, 1) := by decide +kernel
theorem dX7_isSign_1 : decode cX7_isSign 1 = .ok (.bipush 48, 2) := by decide +kernel
theorem dX7_isSign_3 : decode cX7_isSign 3 = .ok (.if_icmp .lt 9, 3) := by decide +kernel
theorem dX7_isSign_6 : decode cX7_isSign 6 = .ok (.iload_n 0, 1) := by decide +kernel
theorem dX7_isSign_7 : decode cX7_isSign 7 = .ok (.bipush 57, 2) := by decide +kernel
theorem dX7_isSign_9 : decode cX7_isSign 9 = .ok (.if_icmp .le 27, 3) := by decide +kernel
theorem dX7_isSign_12 : decode cX7_isSign 12 = .ok (.iload_n 0, 1) := by decide +kernel
theorem dX7_isSign_13 : decode cX7_isSign 13 = .ok (.bipush 65, 2) := by decide +kernel
theorem dX7_isSign_15 : decode cX7_isSign 15 = .ok (.if_icmp .lt 9, 3) := by decide +kernel
theorem dX7_isSign_18 : decode cX7_isSign 18 = .ok (.iload_n 0, 1) := by decide +kernel
theorem dX7_isSign_19 : decode cX7_isSign 19 = .ok (.bipush 90, 2) := by decide +kernel
theorem dX7_isSign_21 : decode cX7_isSign 21 = .ok (.if_icmp .le 15, 3) := by decide +kernel
theorem dX7_isSign_24 : decode cX7_isSign 24 = .ok (.iload_n 0, 1) := by decide +kernel
theorem dX7_isSign_25 : decode cX7_isSign 25 = .ok (.bipush 97, 2) := by decide +kernel
theorem dX7_isSign_27 : decode cX7_isSign 27 = .ok (.if_icmp .lt 13, 3) := by decide +kernel
theorem dX7_isSign_30 : decode cX7_isSign 30 = .ok (.iload_n 0, 1) := by decide +kernel
theorem dX7_isSign_31 : decode cX7_isSign 31 = .ok (.bipush 122, 2) := by decide +kernel
theorem dX7_isSign_33 : decode cX7_isSign 33 = .ok (.if_icmp .gt 7, 3) := by decide +kernel
theorem dX7_isSign_36 : decode cX7_isSign 36 = .ok (.iconst 1, 1) := by decide +kernel
theorem dX7_isSign_37 : decode cX7_isSign 37 = .ok (.goto 4, 3) := by decide +kernel
theorem dX7_isSign_40 : decode cX7_isSign 40 = .ok (.iconst 0, 1) := by decide +kernel
theorem dX7_isSign_41 : decode cX7_isSign 41 = .ok (.ireturn, 1) := by decide +kernel
set_option maxRecDepth 20000 in
theorem ggX7_name_X7_good : GoodIn wsX7_name wsX7_good := goodIn_r _ [8, 9, 23, 24, 25, 26, 27, 28, 29, 30, 31, 32, 33, 34, 35, 36, 37, 38, 39, 40, 41, 42, 43, 44, 45, 46, 47, 48, 49, 50, 51, 52, 53, 54, 55] (by decide +kernel) (by decide +kernel)
set_option maxRecDepth 20000 in
theorem gX7_name_X7_good : GoodIn wsX7_name (wsV RX7 85 RX7 yX7_good wsX7_good) := goodIn_app (goodIn_of _ (by decide +kernel)) ggX7_name_X7_good
set_option maxRecDepth 20000 in
theorem ggX7_name_X7_c : GoodIn wsX7_name wsX7_c := goodIn_r _ [13, 3, 14, 15, 23, 24, 25, 26, 27, 28, 29, 30, 31, 32, 33, 34, 35, 36, 37, 38, 39, 40, 41, 42, 43, 44, 45, 46, 47, 48, 49, 50, 51, 52, 53, 54, 55] (by decide +kernel) (by decide +kernel)
set_option maxRecDepth 20000 in
theorem gX7_name_X7_c : GoodIn wsX7_name (wsV RX7 89 RX7 yX7_c wsX7_c) := goodIn_app (goodIn_of _ (by decide +kernel)) ggX7_name_X7_c
set_option maxRecDepth 20000 in
theorem ggX7_name_X7_isSign : GoodIn wsX7_name wsX7_isSign := goodIn_r _ [18] (by decide +kernel) (by decide +kernel)
set_option maxRecDepth 20000 in
theorem gX7_name_X7_isSign : GoodIn wsX7_name (va_wsS RX7 120 yX7_isSign wsX7_isSign) := goodIn_app (goodIn_of _ (by decide +kernel)) ggX7_name_X7_isSign
set_option maxRecDepth 20000 in
theorem ggX7_name_X7_fail : GoodIn wsX7_name wsX7_fail := goodIn_r _ [22, 9, 23, 24, 25, 26, 27, 28, 29, 30, 31, 32, 33, 34, 35, 36, 37, 38, 39, 40, 41, 42, 43, 44, 45, 46, 47, 48, 49, 50, 51, 52, 53, 54, 55] (by decide +kernel) (by decide +kernel)
set_option maxRecDepth 20000 in
theorem gX7_name_X7_fail : GoodIn wsX7_name (wsV RX7 93 RX7 yX7_fail wsX7_fail) := goodIn_app (goodIn_of _ (by decide +kernel)) ggX7_name_X7_fail
theorem dX7_name_0 : decode cX7_name 0 = .ok (.aload_n 0, 1) := by decide +kernel
theorem dX7_name_1 : decode cX7_name 1 = .ok (.lconst 0, 1) := by decide +kernel
theorem dX7_name_2 : decode cX7_name 2 = .ok (.putfield 113, 3) := by decide +kernel
theorem dX7_name_5 : decode cX7_name 5 = .ok (.aload_n 0, 1) := by decide +kernel
theorem dX7_name_6 : decode cX7_name 6 = .ok (.iconst 0, 1) := by decide +kernel
theorem dX7_name_7 : decode cX7_name 7 = .ok (.putfield 117, 3) := by decide +kernel
theorem dX7_name_10 : decode cX7_name 10 = .ok (.aload_n 0, 1) := by decide +kernel
theorem dX7_name_11 : decode cX7_name 11 = .ok (.invokevirtual 85, 3) := by decide +kernel
theorem dX7_name_14 : decode cX7_name 14 = .ok (.ifCond .eq 73, 3) := by decide +kernel
theorem dX7_name_17 : decode cX7_name 17 = .ok (.aload_n 0, 1) := by decide +kernel
theorem dX7_name_18 : decode cX7_name 18 = .ok (.invokevirtual 89, 3) := by decide +kernel
theorem dX7_name_21 : decode cX7_name 21 = .ok (.invokestatic 120, 3) := by decide +kernel
theorem dX7_name_24 : decode cX7_name 24 = .ok (.ifCond .eq 63, 3) := by decide +kernel
theorem dX7_name_27 : decode cX7_name 27 = .ok (.aload_n 0, 1) := by decide +kernel
theorem dX7_name_28 : decode cX7_name 28 = .ok (.getfield 117, 3) := by decide +kernel
theorem dX7_name_31 : decode cX7_name 31 = .ok (.bipush 8, 2) := by decide +kernel
theorem dX7_name_33 : decode cX7_name 33 = .ok (.if_icmp .ne 14, 3) := by decide +kernel
theorem dX7_name_36 : decode cX7_name 36 = .ok (.aload_n 0, 1) := by decide +kernel
theorem dX7_name_37 : decode cX7_name 37 = .ok (.aload_n 0, 1) := by decide +kernel
theorem dX7_name_38 : decode cX7_name 38 = .ok (.getfield 79, 3) := by decide +kernel
theorem dX7_name_41 : decode cX7_name 41 = .ok (.invokevirtual 93, 3) := by decide +kernel
theorem dX7_name_44 : decode cX7_name 44 = .ok (.goto (-34), 3) := by decide +kernel
theorem dX7_name_47 : decode cX7_name 47 = .ok (.aload_n 0, 1) := by decide +kernel
theorem dX7_name_48 : decode cX7_name 48 = .ok (.aload_n 0, 1) := by decide +kernel
theorem dX7_name_49 : decode cX7_name 49 = .ok (.getfield 113, 3) := by decide +kernel
theorem dX7_name_52 : decode cX7_name 52 = .ok (.bipush 7, 2) := by decide +kernel
theorem dX7_name_54 : decode cX7_name 54 = .ok (.lshl, 1) := by decide +kernel
theorem dX7_name_55 : decode cX7_name 55 = .ok (.aload_n 0, 1) := by decide +kernel
theorem dX7_name_56 : decode cX7_name 56 = .ok (.invokevirtual 89, 3) := by decide +kernel
theorem dX7_name_59 : decode cX7_name 59 = .ok (.i2l, 1) := by decide +kernel
theorem dX7_name_60 : decode cX7_name 60 = .ok (.lor, 1) := by decide +kernel
theorem dX7_name_61 : decode cX7_name 61 = .ok (.putfield 113, 3) := by decide +kernel
theorem dX7_name_64 : decode cX7_name 64 = .ok (.aload_n 0, 1) := by decide +kernel
theorem dX7_name_65 : decode cX7_name 65 = .ok (.dup, 1) := by decide +kernel
theorem dX7_name_66 : decode cX7_name 66 = .ok (.getfield 117, 3) := by decide +kernel
theorem dX7_name_69 : decode cX7_name 69 = .ok (.iconst 1, 1) := by decide +kernel
theorem dX7_name_70 : decode cX7_name 70 = .ok (.iadd, 1) := by decide +kernel
theorem dX7_name_71 : decode cX7_name 71 = .ok (.putfield 117, 3) := by decide +kernel
theorem dX7_name_74 : decode cX7_name 74 = .ok (.aload_n 0, 1) := by decide +kernel
theorem dX7_name_75 : decode cX7_name 75 = .ok (.dup, 1) := by decide +kernel
theorem dX7_name_76 : decode cX7_name 76 = .ok (.getfield 79, 3) := by decide +kernel
theorem dX7_name_79 : decode cX7_name 79 = .ok (.iconst 1, 1) := by decide +kernel
theorem dX7_name_80 : decode cX7_name 80 = .ok (.iadd, 1) := by decide +kernel
theorem dX7_name_81 : decode cX7_name 81 = .ok (.putfield 79, 3) := by decide +kernel
theorem dX7_name_84 : decode cX7_name 84 = .ok (.goto (-74), 3) := by decide +kernel
theorem dX7_name_87 : decode cX7_name 87 = .ok (.aload_n 0, 1) := by decide +kernel
theorem dX7_name_88 : decode cX7_name 88 = .ok (.invokevirtual 85, 3) := by decide +kernel
theorem dX7_name_91 : decode cX7_name 91 = .ok (.ifCond .eq 18, 3) := by decide +kernel
theorem dX7_name_94 : decode cX7_name 94 = .ok (.aload_n 0, 1) := by decide +kernel
theorem dX7_name_95 : decode cX7_name 95 = .ok (.getfield 117, 3) := by decide +kernel
theorem dX7_name_98 : decode cX7_name 98 = .ok (.ifCond .ne 11, 3) := by decide +kernel
theorem dX7_name_101 : decode cX7_name 101 = .ok (.aload_n 0, 1) := by decide +kernel
theorem dX7_name_102 : decode cX7_name 102 = .ok (.aload_n 0, 1) := by decide +kernel
theorem dX7_name_103 : decode cX7_name 103 = .ok (.getfield 79, 3) := by decide +kernel
theorem dX7_name_106 : decode cX7_name 106 = .ok (.invokevirtual 93, 3) := by decide +kernel
theorem dX7_name_109 : decode cX7_name 109 = .ok (.return_, 1) := by decide +kernel
theorem dX7_isDigit_0 : decode cX7_isDigit 0 = .ok (.iload_n 0, 1) := by decide +kernel
theorem dX7_isDigit_1 : decode cX7_isDigit 1 = .ok (.bipush 48, 2) := by decide +kernel
theorem dX7_isDigit_3 : decode cX7_isDigit 3 = .ok (.if_icmp .lt 13, 3) := by decide +kernel
theorem dX7_isDigit_6 : decode cX7_isDigit 6 = .ok (.iload_n 0, 1) := by decide +kernel
theorem dX7_isDigit_7 : decode cX7_isDigit 7 = .ok (.bipush 57, 2) := by decide +kernel
theorem dX7_isDigit_9 : decode cX7_isDigit 9 = .ok (.if_icmp .gt 7, 3) := by decide +kernel
theorem dX7_isDigit_12 : decode cX7_isDigit 12 = .ok (.iconst 1, 1) := by decide +kernel
theorem dX7_isDigit_13 : decode cX7_isDigit 13 = .ok (.goto 4, 3) := by decide +kernel
theorem dX7_isDigit_16 : decode cX7_isDigit 16 = .ok (.iconst 0, 1) := by decide +kernel
theorem dX7_isDigit_17 : decode cX7_isDigit 17 = .ok (.ireturn, 1) := by decide +kernel
set_option maxRecDepth 20000 in
theorem ggX7_digits_X7_good : GoodIn wsX7_digits wsX7_good := goodIn_r _ [8, 9, 23, 24, 25, 26, 27, 28, 29, 30, 31, 32, 33, 34, 35, 36, 37, 38, 39, 40, 41, 42, 43, 44, 45, 46, 47, 48, 49, 50, 51, 52, 53, 54, 55] (by decide +kernel) (by decide +kernel)
set_option maxRecDepth 20000 in
theorem gX7_digits_X7_good : GoodIn wsX7_digits (wsV RX7 85 RX7 yX7_good wsX7_good) := goodIn_app (goodIn_of _ (by decide +kernel)) ggX7_digits_X7_good
set_option maxRecDepth 20000 in
theorem ggX7_digits_X7_c : GoodIn wsX7_digits wsX7_c := goodIn_r _ [13, 1, 14, 15, 23, 24, 25, 26, 27, 28, 29, 30, 31, 32, 33, 34, 35, 36, 37, 38, 39, 40, 41, 42, 43, 44, 45, 46, 47, 48, 49, 50, 51, 52, 53, 54, 55] (by decide +kernel) (by decide +kernel)
set_option maxRecDepth 20000 in
theorem gX7_digits_X7_c : GoodIn wsX7_digits (wsV RX7 89 RX7 yX7_c wsX7_c) := goodIn_app (goodIn_of _ (by decide +kernel)) ggX7_digits_X7_c
set_option maxRecDepth 20000 in
theorem ggX7_digits_X7_isDigit : GoodIn wsX7_digits wsX7_isDigit := goodIn_r _ [18] (by decide +kernel) (by decide +kernel)
set_option maxRecDepth 20000 in
theorem gX7_digits_X7_isDigit : GoodIn wsX7_digits (va_wsS RX7 124 yX7_isDigit wsX7_isDigit) := goodIn_app (goodIn_of _ (by decide +kernel)) ggX7_digits_X7_isDigit
set_option maxRecDepth 20000 in
theorem ggX7_digits_X7_fail : GoodIn wsX7_digits wsX7_fail := goodIn_r _ [22, 9, 23, 24, 25, 26, 27, 28, 29, 30, 31, 32, 33, 34, 35, 36, 37, 38, 39, 40, 41, 42, 43, 44, 45, 46, 47, 48, 49, 50, 51, 52, 53, 54, 55] (by decide +kernel) (by decide +kernel)
set_option maxRecDepth 20000 in
theorem gX7_digits_X7_fail : GoodIn wsX7_digits (wsV RX7 93 RX7 yX7_fail wsX7_fail) := goodIn_app (goodIn_of _ (by decide +kernel)) ggX7_digits_X7_fail
theorem dX7_digits_0 : decode cX7_digits 0 = .ok (.lconst 0, 1) := by decide +kernel
theorem dX7_digits_1 : decode cX7_digits 1 = .ok (.lstore_n 2, 1) := by decide +kernel
theorem dX7_digits_2 : decode cX7_digits 2 = .ok (.iconst 0, 1) := by decide +kernel
theorem dX7_digits_3 : decode cX7_digits 3 = .ok (.istore 4, 2) := by decide +kernel
theorem dX7_digits_5 : decode cX7_digits 5 = .ok (.aload_n 0, 1) := by decide +kernel
theorem dX7_digits_6 : decode cX7_digits 6 = .ok (.invokevirtual 85, 3) := by decide +kernel
theorem dX7_digits_9 : decode cX7_digits 9 = .ok (.ifCond .eq 62, 3) := by decide +kernel
theorem dX7_digits_12 : decode cX7_digits 12 = .ok (.aload_n 0, 1) := by decide +kernel
theorem dX7_digits_13 : decode cX7_digits 13 = .ok (.invokevirtual 89, 3) := by decide +kernel
theorem dX7_digits_16 : decode cX7_digits 16 = .ok (.invokestatic 124, 3) := by decide +kernel
theorem dX7_digits_19 : decode cX7_digits 19 = .ok (.ifCond .eq 52, 3) := by decide +kernel
theorem dX7_digits_22 : decode cX7_digits 22 = .ok (.iload 4, 2) := by decide +kernel
theorem dX7_digits_24 : decode cX7_digits 24 = .ok (.iload_n 1, 1) := by decide +kernel
theorem dX7_digits_25 : decode cX7_digits 25 = .ok (.if_icmp .ne 14, 3) := by decide +kernel
theorem dX7_digits_28 : decode cX7_digits 28 = .ok (.aload_n 0, 1) := by decide +kernel
theorem dX7_digits_29 : decode cX7_digits 29 = .ok (.aload_n 0, 1) := by decide +kernel
theorem dX7_digits_30 : decode cX7_digits 30 = .ok (.getfield 79, 3) := by decide +kernel
theorem dX7_digits_33 : decode cX7_digits 33 = .ok (.invokevirtual 93, 3) := by decide +kernel
theorem dX7_digits_36 : decode cX7_digits 36 = .ok (.goto (-31), 3) := by decide +kernel
theorem dX7_digits_39 : decode cX7_digits 39 = .ok (.ldc2_w 127, 3) := by decide +kernel
theorem dX7_digits_42 : decode cX7_digits 42 = .ok (.lload_n 2, 1) := by decide +kernel
theorem dX7_digits_43 : decode cX7_digits 43 = .ok (.lmul, 1) := by decide +kernel
theorem dX7_digits_44 : decode cX7_digits 44 = .ok (.aload_n 0, 1) := by decide +kernel
theorem dX7_digits_45 : decode cX7_digits 45 = .ok (.invokevirtual 89, 3) := by decide +kernel
theorem dX7_digits_48 : decode cX7_digits 48 = .ok (.i2l, 1) := by decide +kernel
theorem dX7_digits_49 : decode cX7_digits 49 = .ok (.ladd, 1) := by decide +kernel
theorem dX7_digits_50 : decode cX7_digits 50 = .ok (.ldc2_w 129, 3) := by decide +kernel
theorem dX7_digits_53 : decode cX7_digits 53 = .ok (.lsub, 1) := by decide +kernel
theorem dX7_digits_54 : decode cX7_digits 54 = .ok (.lstore_n 2, 1) := by decide +kernel
theorem dX7_digits_55 : decode cX7_digits 55 = .ok (.iinc 4 1, 3) := by decide +kernel
theorem dX7_digits_58 : decode cX7_digits 58 = .ok (.aload_n 0, 1) := by decide +kernel
theorem dX7_digits_59 : decode cX7_digits 59 = .ok (.dup, 1) := by decide +kernel
theorem dX7_digits_60 : decode cX7_digits 60 = .ok (.getfield 79, 3) := by decide +kernel
theorem dX7_digits_63 : decode cX7_digits 63 = .ok (.iconst 1, 1) := by decide +kernel
theorem dX7_digits_64 : decode cX7_digits 64 = .ok (.iadd, 1) := by decide +kernel
theorem dX7_digits_65 : decode cX7_digits 65 = .ok (.putfield 79, 3) := by decide +kernel
theorem dX7_digits_68 : decode cX7_digits 68 = .ok (.goto (-63), 3) := by decide +kernel
theorem dX7_digits_71 : decode cX7_digits 71 = .ok (.aload_n 0, 1) := by decide +kernel
theorem dX7_digits_72 : decode cX7_digits 72 = .ok (.invokevirtual 85, 3) := by decide +kernel
theorem dX7_digits_75 : decode cX7_digits 75 = .ok (.ifCond .eq 16, 3) := by decide +kernel
theorem dX7_digits_78 : decode cX7_digits 78 = .ok (.iload 4, 2) := by decide +kernel
theorem dX7_digits_80 : decode cX7_digits 80 = .ok (.ifCond .ne 11, 3) := by decide +kernel
theorem dX7_digits_83 : decode cX7_digits 83 = .ok (.aload_n 0, 1) := by decide +kernel
theorem dX7_digits_84 : decode cX7_digits 84 = .ok (.aload_n 0, 1) := by decide +kernel
theorem dX7_digits_85 : decode cX7_digits 85 = .ok (.getfield 79, 3) := by decide +kernel
theorem dX7_digits_88 : decode cX7_digits 88 = .ok (.invokevirtual 93, 3) := by decide +kernel
theorem dX7_digits_91 : decode cX7_digits 91 = .ok (.lload_n 2, 1) := by decide +kernel
theorem dX7_digits_92 : decode cX7_digits 92 = .ok (.lreturn, 1) := by decide +kernel
set_option maxRecDepth 20000 in
theorem ggX7_number_X7_digits : GoodIn wsX7_number wsX7_digits := goodIn_r _ [7, 2, 1, 8, 9, 10, 11, 6, 12, 13, 14, 15, 16, 17, 18, 19, 20, 21, 22, 23, 24, 25, 26, 27, 28, 29, 30, 31, 32, 33, 34, 35, 36, 37, 38, 39, 40, 41, 42, 43, 44, 45, 46, 47, 48, 49, 50, 51, 52, 53, 54, 55, 56, 57, 58, 59] (by decide +kernel) (by decide +kernel)
set_option maxRecDepth 20000 in
theorem gX7_number_X7_digits : GoodIn wsX7_number (wsV RX7 131 RX7 yX7_digits wsX7_digits) := goodIn_app (goodIn_of _ (by decide +kernel)) ggX7_number_X7_digits
set_option maxRecDepth 20000 in
theorem ggX7_number_X7_good : GoodIn wsX7_number wsX7_good := goodIn_r _ [12, 13, 27, 28, 29, 30, 31, 32, 33, 34, 35, 36, 37, 38, 39, 40, 41, 42, 43, 44, 45, 46, 47, 48, 49, 50, 51, 52, 53, 54, 55, 56, 57, 58, 59] (by decide +kernel) (by decide +kernel)
set_option maxRecDepth 20000 in
theorem gX7_number_X7_good : GoodIn wsX7_number (wsV RX7 85 RX7 yX7_good wsX7_good) := goodIn_app (goodIn_of _ (by decide +kernel)) ggX7_number_X7_good
set_option maxRecDepth 20000 in
theorem ggX7_number_X7_c : GoodIn wsX7_number wsX7_c := goodIn_r _ [17, 2, 18, 19, 27, 28, 29, 30, 31, 32, 33, 34, 35, 36, 37, 38, 39, 40, 41, 42, 43, 44, 45, 46, 47, 48, 49, 50, 51, 52, 53, 54, 55, 56, 57, 58, 59] (by decide +kernel) (by decide +kernel)
set_option maxRecDepth 20000 in
theorem gX7_number_X7_c : GoodIn wsX7_number (wsV RX7 89 RX7 yX7_c wsX7_c) := goodIn_app (goodIn_of _ (by decide +kernel)) ggX7_number_X7_c
theorem dX7_number_0 : decode cX7_number 0 = .ok (.aload_n 0, 1) := by decide +kernel
theorem dX7_number_1 : decode cX7_number 1 = .ok (.iload_n 1, 1) := by decide +kernel
theorem dX7_number_2 : decode cX7_number 2 = .ok (.invokevirtual 131, 3) := by decide +kernel
theorem dX7_number_5 : decode cX7_number 5 = .ok (.lstore_n 3, 1) := by decide +kernel
theorem dX7_number_6 : decode cX7_number 6 = .ok (.iconst 0, 1) := by decide +kernel
theorem dX7_number_7 : decode cX7_number 7 = .ok (.istore 5, 2) := by decide +kernel
theorem dX7_number_9 : decode cX7_number 9 = .ok (.iload 5, 2) := by decide +kernel
theorem dX7_number_11 : decode cX7_number 11 = .ok (.iload_n 2, 1) := by decide +kernel
theorem dX7_number_12 : decode cX7_number 12 = .ok (.if_icmp .ge 15, 3) := by decide +kernel
theorem dX7_number_15 : decode cX7_number 15 = .ok (.ldc2_w 127, 3) := by decide +kernel
theorem dX7_number_18 : decode cX7_number 18 = .ok (.lload_n 3, 1) := by decide +kernel
theorem dX7_number_19 : decode cX7_number 19 = .ok (.lmul, 1) := by decide +kernel
theorem dX7_number_20 : decode cX7_number 20 = .ok (.lstore_n 3, 1) := by decide +kernel
theorem dX7_number_21 : decode cX7_number 21 = .ok (.iinc 5 1, 3) := by decide +kernel
theorem dX7_number_24 : decode cX7_number 24 = .ok (.goto (-15), 3) := by decide +kernel
theorem dX7_number_27 : decode cX7_number 27 = .ok (.aload_n 0, 1) := by decide +kernel
theorem dX7_number_28 : decode cX7_number 28 = .ok (.invokevirtual 85, 3) := by decide +kernel
theorem dX7_number_31 : decode cX7_number 31 = .ok (.ifCond .eq 12, 3) := by decide +kernel
theorem dX7_number_34 : decode cX7_number 34 = .ok (.aload_n 0, 1) := by decide +kernel
theorem dX7_number_35 : decode cX7_number 35 = .ok (.invokevirtual 89, 3) := by decide +kernel
theorem dX7_number_38 : decode cX7_number 38 = .ok (.bipush 46, 2) := by decide +kernel
theorem dX7_number_40 : decode cX7_number 40 = .ok (.if_icmp .eq 5, 3) := by decide +kernel
theorem dX7_number_43 : decode cX7_number 43 = .ok (.lload_n 3, 1) := by decide +kernel
theorem dX7_number_44 : decode cX7_number 44 = .ok (.lreturn, 1) := by decide +kernel
theorem dX7_number_45 : decode cX7_number 45 = .ok (.aload_n 0, 1) := by decide +kernel
theorem dX7_number_46 : decode cX7_number 46 = .ok (.dup, 1) := by decide +kernel
theorem dX7_number_47 : decode cX7_number 47 = .ok (.getfield 79, 3) := by decide +kernel
theorem dX7_number_50 : decode cX7_number 50 = .ok (.iconst 1, 1) := by decide +kernel
theorem dX7_number_51 : decode cX7_number 51 = .ok (.iadd, 1) := by decide +kernel
theorem dX7_number_52 : decode cX7_number 52 = .ok (.putfield 79, 3) := by decide +kernel
theorem dX7_number_55 : decode cX7_number 55 = .ok (.aload_n 0, 1) := by decide +kernel
theorem dX7_number_56 : decode cX7_number 56 = .ok (.getfield 79, 3) := by decide +kernel
theorem dX7_number_59 : decode cX7_number 59 = .ok (.istore 5, 2) := by decide +kernel
theorem dX7_number_61 : decode cX7_number 61 = .ok (.aload_n 0, 1) := by decide +kernel
theorem dX7_number_62 : decode cX7_number 62 = .ok (.iload_n 2, 1) := by decide +kernel
theorem dX7_number_63 : decode cX7_number 63 = .ok (.invokevirtual 131, 3) := by decide +kernel
theorem dX7_number_66 : decode cX7_number 66 = .ok (.lstore 6, 2) := by decide +kernel
theorem dX7_number_68 : decode cX7_number 68 = .ok (.aload_n 0, 1) := by decide +kernel
theorem dX7_number_69 : decode cX7_number 69 = .ok (.getfield 79, 3) := by decide +kernel
theorem dX7_number_72 : decode cX7_number 72 = .ok (.iload 5, 2) := by decide +kernel
theorem dX7_number_74 : decode cX7_number 74 = .ok (.isub, 1) := by decide +kernel
theorem dX7_number_75 : decode cX7_number 75 = .ok (.istore 8, 2) := by decide +kernel
theorem dX7_number_77 : decode cX7_number 77 = .ok (.iload 8, 2) := by decide +kernel
theorem dX7_number_79 : decode cX7_number 79 = .ok (.iload_n 2, 1) := by decide +kernel
theorem dX7_number_80 : decode cX7_number 80 = .ok (.if_icmp .ge 17, 3) := by decide +kernel
