theorem dX7_copperOf_42 : decode cX7_copperOf 42 = .ok (.ireturn, 1) := by decide +kernel
set_option maxRecDepth 20000 in
theorem ggX7_isSkew_X7_copperOf : GoodIn wsX7_isSkew wsX7_copperOf := goodIn_r _ [13, 14, 2, 15, 16, 17, 18, 19, 20, 21, 22, 23, 24, 25, 26, 27, 28, 29, 30, 31, 32, 33, 34, 35, 36, 37, 38, 39, 40, 41, 42, 43, 44, 45, 46, 47, 48] (by decide +kernel) (by decide +kernel)
set_option maxRecDepth 20000 in
theorem gX7_isSkew_X7_copperOf : GoodIn wsX7_isSkew (wsV RX7 233 RX7 yX7_copperOf wsX7_copperOf) := goodIn_app (goodIn_of _ (by decide +kernel)) ggX7_isSkew_X7_copperOf
theorem dX7_isSkew_0 : decode cX7_isSkew 0 = .ok (.aload_n 0, 1) := by decide +kernel
theorem dX7_isSkew_1 : decode cX7_isSkew 1 = .ok (.getfield 13, 3) := by decide +kernel
theorem dX7_isSkew_4 : decode cX7_isSkew 4 = .ok (.aload_n 0, 1) := by decide +kernel
theorem dX7_isSkew_5 : decode cX7_isSkew 5 = .ok (.getfield 195, 3) := by decide +kernel
theorem dX7_isSkew_8 : decode cX7_isSkew 8 = .ok (.iaload, 1) := by decide +kernel
theorem dX7_isSkew_9 : decode cX7_isSkew 9 = .ok (.iconst 1, 1) := by decide +kernel
theorem dX7_isSkew_10 : decode cX7_isSkew 10 = .ok (.isub, 1) := by decide +kernel
theorem dX7_isSkew_11 : decode cX7_isSkew 11 = .ok (.iload_n 1, 1) := by decide +kernel
theorem dX7_isSkew_12 : decode cX7_isSkew 12 = .ok (.isub, 1) := by decide +kernel
theorem dX7_isSkew_13 : decode cX7_isSkew 13 = .ok (.istore_n 2, 1) := by decide +kernel
theorem dX7_isSkew_14 : decode cX7_isSkew 14 = .ok (.bipush 80, 2) := by decide +kernel
theorem dX7_isSkew_16 : decode cX7_isSkew 16 = .ok (.aload_n 0, 1) := by decide +kernel
theorem dX7_isSkew_17 : decode cX7_isSkew 17 = .ok (.getfield 195, 3) := by decide +kernel
theorem dX7_isSkew_20 : decode cX7_isSkew 20 = .ok (.imul, 1) := by decide +kernel
theorem dX7_isSkew_21 : decode cX7_isSkew 21 = .ok (.iload_n 1, 1) := by decide +kernel
theorem dX7_isSkew_22 : decode cX7_isSkew 22 = .ok (.iadd, 1) := by decide +kernel
theorem dX7_isSkew_23 : decode cX7_isSkew 23 = .ok (.istore_n 3, 1) := by decide +kernel
theorem dX7_isSkew_24 : decode cX7_isSkew 24 = .ok (.bipush 80, 2) := by decide +kernel
theorem dX7_isSkew_26 : decode cX7_isSkew 26 = .ok (.aload_n 0, 1) := by decide +kernel
theorem dX7_isSkew_27 : decode cX7_isSkew 27 = .ok (.getfield 195, 3) := by decide +kernel
theorem dX7_isSkew_30 : decode cX7_isSkew 30 = .ok (.imul, 1) := by decide +kernel
theorem dX7_isSkew_31 : decode cX7_isSkew 31 = .ok (.iload_n 2, 1) := by decide +kernel
theorem dX7_isSkew_32 : decode cX7_isSkew 32 = .ok (.iadd, 1) := by decide +kernel
theorem dX7_isSkew_33 : decode cX7_isSkew 33 = .ok (.istore 4, 2) := by decide +kernel
theorem dX7_isSkew_35 : decode cX7_isSkew 35 = .ok (.aload_n 0, 1) := by decide +kernel
theorem dX7_isSkew_36 : decode cX7_isSkew 36 = .ok (.getfield 16, 3) := by decide +kernel
theorem dX7_isSkew_39 : decode cX7_isSkew 39 = .ok (.iload_n 3, 1) := by decide +kernel
theorem dX7_isSkew_40 : decode cX7_isSkew 40 = .ok (.iaload, 1) := by decide +kernel
theorem dX7_isSkew_41 : decode cX7_isSkew 41 = .ok (.aload_n 0, 1) := by decide +kernel
theorem dX7_isSkew_42 : decode cX7_isSkew 42 = .ok (.getfield 16, 3) := by decide +kernel
theorem dX7_isSkew_45 : decode cX7_isSkew 45 = .ok (.iload 4, 2) := by decide +kernel
theorem dX7_isSkew_47 : decode cX7_isSkew 47 = .ok (.iaload, 1) := by decide +kernel
theorem dX7_isSkew_48 : decode cX7_isSkew 48 = .ok (.if_icmp .ne 36, 3) := by decide +kernel
theorem dX7_isSkew_51 : decode cX7_isSkew 51 = .ok (.aload_n 0, 1) := by decide +kernel
theorem dX7_isSkew_52 : decode cX7_isSkew 52 = .ok (.getfield 26, 3) := by decide +kernel
theorem dX7_isSkew_55 : decode cX7_isSkew 55 = .ok (.iload_n 3, 1) := by decide +kernel
theorem dX7_isSkew_56 : decode cX7_isSkew 56 = .ok (.laload, 1) := by decide +kernel
theorem dX7_isSkew_57 : decode cX7_isSkew 57 = .ok (.aload_n 0, 1) := by decide +kernel
theorem dX7_isSkew_58 : decode cX7_isSkew 58 = .ok (.getfield 26, 3) := by decide +kernel
theorem dX7_isSkew_61 : decode cX7_isSkew 61 = .ok (.iload 4, 2) := by decide +kernel
theorem dX7_isSkew_63 : decode cX7_isSkew 63 = .ok (.laload, 1) := by decide +kernel
theorem dX7_isSkew_64 : decode cX7_isSkew 64 = .ok (.lcmp, 1) := by decide +kernel
theorem dX7_isSkew_65 : decode cX7_isSkew 65 = .ok (.ifCond .ne 19, 3) := by decide +kernel
theorem dX7_isSkew_68 : decode cX7_isSkew 68 = .ok (.aload_n 0, 1) := by decide +kernel
theorem dX7_isSkew_69 : decode cX7_isSkew 69 = .ok (.getfield 29, 3) := by decide +kernel
theorem dX7_isSkew_72 : decode cX7_isSkew 72 = .ok (.iload_n 3, 1) := by decide +kernel
theorem dX7_isSkew_73 : decode cX7_isSkew 73 = .ok (.iaload, 1) := by decide +kernel
theorem dX7_isSkew_74 : decode cX7_isSkew 74 = .ok (.aload_n 0, 1) := by decide +kernel
theorem dX7_isSkew_75 : decode cX7_isSkew 75 = .ok (.getfield 29, 3) := by decide +kernel
theorem dX7_isSkew_78 : decode cX7_isSkew 78 = .ok (.iload 4, 2) := by decide +kernel
theorem dX7_isSkew_80 : decode cX7_isSkew 80 = .ok (.iaload, 1) := by decide +kernel
theorem dX7_isSkew_81 : decode cX7_isSkew 81 = .ok (.if_icmp .eq 5, 3) := by decide +kernel
theorem dX7_isSkew_84 : decode cX7_isSkew 84 = .ok (.iconst 1, 1) := by decide +kernel
theorem dX7_isSkew_85 : decode cX7_isSkew 85 = .ok (.ireturn, 1) := by decide +kernel
theorem dX7_isSkew_86 : decode cX7_isSkew 86 = .ok (.aload_n 0, 1) := by decide +kernel
theorem dX7_isSkew_87 : decode cX7_isSkew 87 = .ok (.getfield 16, 3) := by decide +kernel
theorem dX7_isSkew_90 : decode cX7_isSkew 90 = .ok (.iload_n 3, 1) := by decide +kernel
theorem dX7_isSkew_91 : decode cX7_isSkew 91 = .ok (.iaload, 1) := by decide +kernel
theorem dX7_isSkew_92 : decode cX7_isSkew 92 = .ok (.ifCond .ne 32, 3) := by decide +kernel
theorem dX7_isSkew_95 : decode cX7_isSkew 95 = .ok (.aload_n 0, 1) := by decide +kernel
theorem dX7_isSkew_96 : decode cX7_isSkew 96 = .ok (.getfield 56, 3) := by decide +kernel
theorem dX7_isSkew_99 : decode cX7_isSkew 99 = .ok (.aload_n 0, 1) := by decide +kernel
theorem dX7_isSkew_100 : decode cX7_isSkew 100 = .ok (.iload_n 1, 1) := by decide +kernel
theorem dX7_isSkew_101 : decode cX7_isSkew 101 = .ok (.invokevirtual 233, 3) := by decide +kernel
theorem dX7_isSkew_104 : decode cX7_isSkew 104 = .ok (.iaload, 1) := by decide +kernel
theorem dX7_isSkew_105 : decode cX7_isSkew 105 = .ok (.aload_n 0, 1) := by decide +kernel
theorem dX7_isSkew_106 : decode cX7_isSkew 106 = .ok (.getfield 56, 3) := by decide +kernel
theorem dX7_isSkew_109 : decode cX7_isSkew 109 = .ok (.aload_n 0, 1) := by decide +kernel
theorem dX7_isSkew_110 : decode cX7_isSkew 110 = .ok (.iload_n 2, 1) := by decide +kernel
theorem dX7_isSkew_111 : decode cX7_isSkew 111 = .ok (.invokevirtual 233, 3) := by decide +kernel
theorem dX7_isSkew_114 : decode cX7_isSkew 114 = .ok (.iaload, 1) := by decide +kernel
theorem dX7_isSkew_115 : decode cX7_isSkew 115 = .ok (.if_icmp .eq 7, 3) := by decide +kernel
theorem dX7_isSkew_118 : decode cX7_isSkew 118 = .ok (.iconst 1, 1) := by decide +kernel
theorem dX7_isSkew_119 : decode cX7_isSkew 119 = .ok (.goto 4, 3) := by decide +kernel
theorem dX7_isSkew_122 : decode cX7_isSkew 122 = .ok (.iconst 0, 1) := by decide +kernel
theorem dX7_isSkew_123 : decode cX7_isSkew 123 = .ok (.ireturn, 1) := by decide +kernel
theorem dX7_isSkew_124 : decode cX7_isSkew 124 = .ok (.aload_n 0, 1) := by decide +kernel
theorem dX7_isSkew_125 : decode cX7_isSkew 125 = .ok (.getfield 19, 3) := by decide +kernel
theorem dX7_isSkew_128 : decode cX7_isSkew 128 = .ok (.iload_n 3, 1) := by decide +kernel
theorem dX7_isSkew_129 : decode cX7_isSkew 129 = .ok (.laload, 1) := by decide +kernel
theorem dX7_isSkew_130 : decode cX7_isSkew 130 = .ok (.aload_n 0, 1) := by decide +kernel
theorem dX7_isSkew_131 : decode cX7_isSkew 131 = .ok (.getfield 19, 3) := by decide +kernel
theorem dX7_isSkew_134 : decode cX7_isSkew 134 = .ok (.iload 4, 2) := by decide +kernel
theorem dX7_isSkew_136 : decode cX7_isSkew 136 = .ok (.laload, 1) := by decide +kernel
theorem dX7_isSkew_137 : decode cX7_isSkew 137 = .ok (.lcmp, 1) := by decide +kernel
theorem dX7_isSkew_138 : decode cX7_isSkew 138 = .ok (.ifCond .ne 19, 3) := by decide +kernel
theorem dX7_isSkew_141 : decode cX7_isSkew 141 = .ok (.aload_n 0, 1) := by decide +kernel
theorem dX7_isSkew_142 : decode cX7_isSkew 142 = .ok (.getfield 23, 3) := by decide +kernel
theorem dX7_isSkew_145 : decode cX7_isSkew 145 = .ok (.iload_n 3, 1) := by decide +kernel
theorem dX7_isSkew_146 : decode cX7_isSkew 146 = .ok (.iaload, 1) := by decide +kernel
theorem dX7_isSkew_147 : decode cX7_isSkew 147 = .ok (.aload_n 0, 1) := by decide +kernel
theorem dX7_isSkew_148 : decode cX7_isSkew 148 = .ok (.getfield 23, 3) := by decide +kernel
theorem dX7_isSkew_151 : decode cX7_isSkew 151 = .ok (.iload 4, 2) := by decide +kernel
theorem dX7_isSkew_153 : decode cX7_isSkew 153 = .ok (.iaload, 1) := by decide +kernel
theorem dX7_isSkew_154 : decode cX7_isSkew 154 = .ok (.if_icmp .eq 7, 3) := by decide +kernel
theorem dX7_isSkew_157 : decode cX7_isSkew 157 = .ok (.iconst 1, 1) := by decide +kernel
theorem dX7_isSkew_158 : decode cX7_isSkew 158 = .ok (.goto 4, 3) := by decide +kernel
theorem dX7_isSkew_161 : decode cX7_isSkew 161 = .ok (.iconst 0, 1) := by decide +kernel
theorem dX7_isSkew_162 : decode cX7_isSkew 162 = .ok (.ireturn, 1) := by decide +kernel
set_option maxRecDepth 20000 in
theorem ggX7_skew_X7_isSkew : GoodIn wsX7_skew wsX7_isSkew := goodIn_r _ [9, 3, 4, 10, 11, 12, 13, 14, 15, 16, 17, 18, 8, 19, 20, 21, 22, 23, 24, 25, 26, 27, 28, 29, 30, 31, 32, 33, 34, 35, 36, 37, 38, 39, 40, 41, 42, 43, 44, 45, 46, 47, 48, 49, 50, 51, 52, 53, 54] (by decide +kernel) (by decide +kernel)
set_option maxRecDepth 20000 in
theorem gX7_skew_X7_isSkew : GoodIn wsX7_skew (wsV RX7 236 RX7 yX7_isSkew wsX7_isSkew) := goodIn_app (goodIn_of _ (by decide +kernel)) ggX7_skew_X7_isSkew
theorem dX7_skew_0 : decode cX7_skew 0 = .ok (.aload_n 0, 1) := by decide +kernel
theorem dX7_skew_1 : decode cX7_skew 1 = .ok (.iconst 0, 1) := by decide +kernel
theorem dX7_skew_2 : decode cX7_skew 2 = .ok (.putfield 72, 3) := by decide +kernel
theorem dX7_skew_5 : decode cX7_skew 5 = .ok (.iload_n 1, 1) := by decide +kernel
theorem dX7_skew_6 : decode cX7_skew 6 = .ok (.istore_n 2, 1) := by decide +kernel
theorem dX7_skew_7 : decode cX7_skew 7 = .ok (.iconst 0, 1) := by decide +kernel
theorem dX7_skew_8 : decode cX7_skew 8 = .ok (.istore_n 3, 1) := by decide +kernel
theorem dX7_skew_9 : decode cX7_skew 9 = .ok (.aload_n 0, 1) := by decide +kernel
theorem dX7_skew_10 : decode cX7_skew 10 = .ok (.getfield 201, 3) := by decide +kernel
theorem dX7_skew_13 : decode cX7_skew 13 = .ok (.ifCond .eq 46, 3) := by decide +kernel
theorem dX7_skew_16 : decode cX7_skew 16 = .ok (.iload_n 1, 1) := by decide +kernel
theorem dX7_skew_17 : decode cX7_skew 17 = .ok (.ifCond .lt 42, 3) := by decide +kernel
theorem dX7_skew_20 : decode cX7_skew 20 = .ok (.iload_n 3, 1) := by decide +kernel
theorem dX7_skew_21 : decode cX7_skew 21 = .ok (.aload_n 0, 1) := by decide +kernel
theorem dX7_skew_22 : decode cX7_skew 22 = .ok (.getfield 13, 3) := by decide +kernel
theorem dX7_skew_25 : decode cX7_skew 25 = .ok (.aload_n 0, 1) := by decide +kernel
theorem dX7_skew_26 : decode cX7_skew 26 = .ok (.getfield 195, 3) := by decide +kernel
theorem dX7_skew_29 : decode cX7_skew 29 = .ok (.iaload, 1) := by decide +kernel
theorem dX7_skew_30 : decode cX7_skew 30 = .ok (.if_icmp .ge 29, 3) := by decide +kernel
theorem dX7_skew_33 : decode cX7_skew 33 = .ok (.aload_n 0, 1) := by decide +kernel
theorem dX7_skew_34 : decode cX7_skew 34 = .ok (.iload_n 3, 1) := by decide +kernel
theorem dX7_skew_35 : decode cX7_skew 35 = .ok (.invokevirtual 236, 3) := by decide +kernel
theorem dX7_skew_38 : decode cX7_skew 38 = .ok (.ifCond .ne 6, 3) := by decide +kernel
theorem dX7_skew_41 : decode cX7_skew 41 = .ok (.goto 12, 3) := by decide +kernel
theorem dX7_skew_44 : decode cX7_skew 44 = .ok (.iload_n 2, 1) := by decide +kernel
theorem dX7_skew_45 : decode cX7_skew 45 = .ok (.ifCond .ne 5, 3) := by decide +kernel
theorem dX7_skew_48 : decode cX7_skew 48 = .ok (.iload_n 3, 1) := by decide +kernel
theorem dX7_skew_49 : decode cX7_skew 49 = .ok (.ireturn, 1) := by decide +kernel
theorem dX7_skew_50 : decode cX7_skew 50 = .ok (.iinc 2 (-1), 3) := by decide +kernel
theorem dX7_skew_53 : decode cX7_skew 53 = .ok (.iinc 3 1, 3) := by decide +kernel
theorem dX7_skew_56 : decode cX7_skew 56 = .ok (.goto (-47), 3) := by decide +kernel
theorem dX7_skew_59 : decode cX7_skew 59 = .ok (.iconst (-1), 1) := by decide +kernel
theorem dX7_skew_60 : decode cX7_skew 60 = .ok (.ireturn, 1) := by decide +kernel
set_option maxRecDepth 20000 in
theorem ggX7_copper_X7_isCopper : GoodIn wsX7_copper wsX7_isCopper := goodIn_r _ [9, 10, 11, 12, 13, 14, 15, 16, 17, 18, 19, 20, 21, 22, 23, 24, 25, 26, 27, 28, 29, 30, 31, 32, 33, 34, 35, 36, 37, 38, 39, 40, 41, 42, 43, 44, 45] (by decide +kernel) (by decide +kernel)
set_option maxRecDepth 20000 in
theorem gX7_copper_X7_isCopper : GoodIn wsX7_copper (wsV RX7 227 RX7 yX7_isCopper wsX7_isCopper) := goodIn_app (goodIn_of _ (by decide +kernel)) ggX7_copper_X7_isCopper
theorem dX7_copper_0 : decode cX7_copper 0 = .ok (.lload 4, 2) := by decide +kernel
theorem dX7_copper_2 : decode cX7_copper 2 = .ok (.lconst 1, 1) := by decide +kernel
theorem dX7_copper_3 : decode cX7_copper 3 = .ok (.lcmp, 1) := by decide +kernel
theorem dX7_copper_4 : decode cX7_copper 4 = .ok (.ifCond .lt 29, 3) := by decide +kernel
theorem dX7_copper_7 : decode cX7_copper 7 = .ok (.lload 4, 2) := by decide +kernel
theorem dX7_copper_9 : decode cX7_copper 9 = .ok (.ldc2_w 239, 3) := by decide +kernel
theorem dX7_copper_12 : decode cX7_copper 12 = .ok (.lcmp, 1) := by decide +kernel
theorem dX7_copper_13 : decode cX7_copper 13 = .ok (.ifCond .gt 20, 3) := by decide +kernel
theorem dX7_copper_16 : decode cX7_copper 16 = .ok (.lload_n 2, 1) := by decide +kernel
theorem dX7_copper_17 : decode cX7_copper 17 = .ok (.lconst 0, 1) := by decide +kernel
theorem dX7_copper_18 : decode cX7_copper 18 = .ok (.lcmp, 1) := by decide +kernel
theorem dX7_copper_19 : decode cX7_copper 19 = .ok (.ifCond .lt 14, 3) := by decide +kernel
theorem dX7_copper_22 : decode cX7_copper 22 = .ok (.lload_n 2, 1) := by decide +kernel
theorem dX7_copper_23 : decode cX7_copper 23 = .ok (.lload 4, 2) := by decide +kernel
theorem dX7_copper_25 : decode cX7_copper 25 = .ok (.lcmp, 1) := by decide +kernel
theorem dX7_copper_26 : decode cX7_copper 26 = .ok (.ifCond .gt 7, 3) := by decide +kernel
theorem dX7_copper_29 : decode cX7_copper 29 = .ok (.iconst 1, 1) := by decide +kernel
theorem dX7_copper_30 : decode cX7_copper 30 = .ok (.goto 4, 3) := by decide +kernel
theorem dX7_copper_33 : decode cX7_copper 33 = .ok (.iconst 0, 1) := by decide +kernel
theorem dX7_copper_34 : decode cX7_copper 34 = .ok (.istore 6, 2) := by decide +kernel
theorem dX7_copper_36 : decode cX7_copper 36 = .ok (.aload_n 0, 1) := by decide +kernel
theorem dX7_copper_37 : decode cX7_copper 37 = .ok (.aload_n 0, 1) := by decide +kernel
theorem dX7_copper_38 : decode cX7_copper 38 = .ok (.iload_n 1, 1) := by decide +kernel
theorem dX7_copper_39 : decode cX7_copper 39 = .ok (.invokevirtual 227, 3) := by decide +kernel
theorem dX7_copper_42 : decode cX7_copper 42 = .ok (.ifCond .ne 7, 3) := by decide +kernel
theorem dX7_copper_45 : decode cX7_copper 45 = .ok (.iconst 1, 1) := by decide +kernel
theorem dX7_copper_46 : decode cX7_copper 46 = .ok (.goto 13, 3) := by decide +kernel
theorem dX7_copper_49 : decode cX7_copper 49 = .ok (.iload 6, 2) := by decide +kernel
theorem dX7_copper_51 : decode cX7_copper 51 = .ok (.ifCond .eq 7, 3) := by decide +kernel
theorem dX7_copper_54 : decode cX7_copper 54 = .ok (.iconst 0, 1) := by decide +kernel
theorem dX7_copper_55 : decode cX7_copper 55 = .ok (.goto 4, 3) := by decide +kernel
theorem dX7_copper_58 : decode cX7_copper 58 = .ok (.iconst 2, 1) := by decide +kernel
theorem dX7_copper_59 : decode cX7_copper 59 = .ok (.putfield 72, 3) := by decide +kernel
theorem dX7_copper_62 : decode cX7_copper 62 = .ok (.aload_n 0, 1) := by decide +kernel
theorem dX7_copper_63 : decode cX7_copper 63 = .ok (.getfield 72, 3) := by decide +kernel
theorem dX7_copper_66 : decode cX7_copper 66 = .ok (.ifCond .eq 5, 3) := by decide +kernel
theorem dX7_copper_69 : decode cX7_copper 69 = .ok (.iconst 0, 1) := by decide +kernel
theorem dX7_copper_70 : decode cX7_copper 70 = .ok (.ireturn, 1) := by decide +kernel
theorem dX7_copper_71 : decode cX7_copper 71 = .ok (.lload_n 2, 1) := by decide +kernel
theorem dX7_copper_72 : decode cX7_copper 72 = .ok (.ldc2_w 212, 3) := by decide +kernel
theorem dX7_copper_75 : decode cX7_copper 75 = .ok (.lmul, 1) := by decide +kernel
theorem dX7_copper_76 : decode cX7_copper 76 = .ok (.lload 4, 2) := by decide +kernel
theorem dX7_copper_78 : decode cX7_copper 78 = .ok (.ldiv, 1) := by decide +kernel
theorem dX7_copper_79 : decode cX7_copper 79 = .ok (.l2i, 1) := by decide +kernel
theorem dX7_copper_80 : decode cX7_copper 80 = .ok (.istore 7, 2) := by decide +kernel
theorem dX7_copper_82 : decode cX7_copper 82 = .ok (.aload_n 0, 1) := by decide +kernel
theorem dX7_copper_83 : decode cX7_copper 83 = .ok (.getfield 56, 3) := by decide +kernel
theorem dX7_copper_86 : decode cX7_copper 86 = .ok (.iload_n 1, 1) := by decide +kernel
theorem dX7_copper_87 : decode cX7_copper 87 = .ok (.iaload, 1) := by decide +kernel
theorem dX7_copper_88 : decode cX7_copper 88 = .ok (.iload 7, 2) := by decide +kernel
theorem dX7_copper_90 : decode cX7_copper 90 = .ok (.if_icmp .eq 7, 3) := by decide +kernel
theorem dX7_copper_93 : decode cX7_copper 93 = .ok (.iconst 1, 1) := by decide +kernel
theorem dX7_copper_94 : decode cX7_copper 94 = .ok (.goto 4, 3) := by decide +kernel
theorem dX7_copper_97 : decode cX7_copper 97 = .ok (.iconst 0, 1) := by decide +kernel
theorem dX7_copper_98 : decode cX7_copper 98 = .ok (.istore 8, 2) := by decide +kernel
theorem dX7_copper_100 : decode cX7_copper 100 = .ok (.aload_n 0, 1) := by decide +kernel
theorem dX7_copper_101 : decode cX7_copper 101 = .ok (.getfield 56, 3) := by decide +kernel
theorem dX7_copper_104 : decode cX7_copper 104 = .ok (.iload_n 1, 1) := by decide +kernel
theorem dX7_copper_105 : decode cX7_copper 105 = .ok (.iload 7, 2) := by decide +kernel
theorem dX7_copper_107 : decode cX7_copper 107 = .ok (.iastore, 1) := by decide +kernel
theorem dX7_copper_108 : decode cX7_copper 108 = .ok (.iload 8, 2) := by decide +kernel
theorem dX7_copper_110 : decode cX7_copper 110 = .ok (.ireturn, 1) := by decide +kernel
set_option maxRecDepth 20000 in
theorem ggX7_role_X7_isLayer : GoodIn wsX7_role wsX7_isLayer := goodIn_r _ [6, 7, 8, 9, 16, 17, 18, 19, 20, 21, 22, 23, 24, 25, 26, 27, 28, 29, 30, 31, 32, 33, 34, 35, 36, 37, 38, 39, 40, 41, 42, 43, 44, 45, 46, 47, 48] (by decide +kernel) (by decide +kernel)
set_option maxRecDepth 20000 in
theorem gX7_role_X7_isLayer : GoodIn wsX7_role (wsV RX7 214 RX7 yX7_isLayer wsX7_isLayer) := goodIn_app (goodIn_of _ (by decide +kernel)) ggX7_role_X7_isLayer
set_option maxRecDepth 20000 in
theorem ggX7_role_X7_copperOf : GoodIn wsX7_role wsX7_copperOf := goodIn_r _ [13, 14, 9, 15, 16, 17, 18, 19, 20, 21, 22, 23, 24, 25, 26, 27, 28, 29, 30, 31, 32, 33, 34, 35, 36, 37, 38, 39, 40, 41, 42, 43, 44, 45, 46, 47, 48] (by decide +kernel) (by decide +kernel)
set_option maxRecDepth 20000 in
theorem gX7_role_X7_copperOf : GoodIn wsX7_role (wsV RX7 233 RX7 yX7_copperOf wsX7_copperOf) := goodIn_app (goodIn_of _ (by decide +kernel)) ggX7_role_X7_copperOf
theorem dX7_role_0 : decode cX7_role 0 = .ok (.aload_n 0, 1) := by decide +kernel
theorem dX7_role_1 : decode cX7_role 1 = .ok (.aload_n 0, 1) := by decide +kernel
theorem dX7_role_2 : decode cX7_role 2 = .ok (.iload_n 1, 1) := by decide +kernel
theorem dX7_role_3 : decode cX7_role 3 = .ok (.invokevirtual 214, 3) := by decide +kernel
theorem dX7_role_6 : decode cX7_role 6 = .ok (.ifCond .eq 7, 3) := by decide +kernel
theorem dX7_role_9 : decode cX7_role 9 = .ok (.iconst 0, 1) := by decide +kernel
theorem dX7_role_10 : decode cX7_role 10 = .ok (.goto 4, 3) := by decide +kernel
theorem dX7_role_13 : decode cX7_role 13 = .ok (.iconst 1, 1) := by decide +kernel
theorem dX7_role_14 : decode cX7_role 14 = .ok (.putfield 72, 3) := by decide +kernel
theorem dX7_role_17 : decode cX7_role 17 = .ok (.aload_n 0, 1) := by decide +kernel
theorem dX7_role_18 : decode cX7_role 18 = .ok (.getfield 72, 3) := by decide +kernel
theorem dX7_role_21 : decode cX7_role 21 = .ok (.ifCond .ne 11, 3) := by decide +kernel
theorem dX7_role_24 : decode cX7_role 24 = .ok (.aload_n 0, 1) := by decide +kernel
theorem dX7_role_25 : decode cX7_role 25 = .ok (.iload_n 1, 1) := by decide +kernel
theorem dX7_role_26 : decode cX7_role 26 = .ok (.invokevirtual 233, 3) := by decide +kernel
theorem dX7_role_29 : decode cX7_role 29 = .ok (.goto 4, 3) := by decide +kernel
theorem dX7_role_32 : decode cX7_role 32 = .ok (.iconst 0, 1) := by decide +kernel
theorem dX7_role_33 : decode cX7_role 33 = .ok (.ireturn, 1) := by decide +kernel
set_option maxRecDepth 20000 in
theorem ggX7_sum_X7_isBit : GoodIn wsX7_sum wsX7_isBit := goodIn_r _ [12] (by decide +kernel) (by decide +kernel)
set_option maxRecDepth 20000 in
theorem gX7_sum_X7_isBit : GoodIn wsX7_sum (va_wsS RX7 217 yX7_isBit wsX7_isBit) := goodIn_app (goodIn_of _ (by decide +kernel)) ggX7_sum_X7_isBit
set_option maxRecDepth 20000 in
theorem ggX7_sum_X7_endOf : GoodIn wsX7_sum wsX7_endOf := goodIn_r _ [16, 4, 17, 7, 18, 31, 32, 33, 34, 35, 36, 37, 38, 39, 40, 41, 42, 43, 44, 45, 46, 47, 48, 49, 50, 51, 52, 53, 54, 55, 56, 57, 58, 59, 60, 61, 62, 63] (by decide +kernel) (by decide +kernel)
set_option maxRecDepth 20000 in
theorem gX7_sum_X7_endOf : GoodIn wsX7_sum (wsV RX7 220 RX7 yX7_endOf wsX7_endOf) := goodIn_app (goodIn_of _ (by decide +kernel)) ggX7_sum_X7_endOf
set_option maxRecDepth 20000 in
theorem ggX7_sum_X7_copperOf : GoodIn wsX7_sum wsX7_copperOf := goodIn_r _ [22, 23, 4, 24, 31, 32, 33, 34, 35, 36, 37, 38, 39, 40, 41, 42, 43, 44, 45, 46, 47, 48, 49, 50, 51, 52, 53, 54, 55, 56, 57, 58, 59, 60, 61, 62, 63] (by decide +kernel) (by decide +kernel)
set_option maxRecDepth 20000 in
theorem gX7_sum_X7_copperOf : GoodIn wsX7_sum (wsV RX7 233 RX7 yX7_copperOf wsX7_copperOf) := goodIn_app (goodIn_of _ (by decide +kernel)) ggX7_sum_X7_copperOf
set_option maxRecDepth 20000 in
theorem ggX7_sum_X7_partOf : GoodIn wsX7_sum wsX7_partOf := goodIn_r _ [27, 28, 29, 11, 30] (by decide +kernel) (by decide +kernel)
set_option maxRecDepth 20000 in
theorem gX7_sum_X7_partOf : GoodIn wsX7_sum (va_wsS RX7 223 yX7_partOf wsX7_partOf) := goodIn_app (goodIn_of _ (by decide +kernel)) ggX7_sum_X7_partOf
theorem dX7_sum_0 : decode cX7_sum 0 = .ok (.aload_n 0, 1) := by decide +kernel
theorem dX7_sum_1 : decode cX7_sum 1 = .ok (.iload_n 1, 1) := by decide +kernel
theorem dX7_sum_2 : decode cX7_sum 2 = .ok (.invokestatic 217, 3) := by decide +kernel
theorem dX7_sum_5 : decode cX7_sum 5 = .ok (.ifCond .eq 14, 3) := by decide +kernel
theorem dX7_sum_8 : decode cX7_sum 8 = .ok (.iload_n 2, 1) := by decide +kernel
theorem dX7_sum_9 : decode cX7_sum 9 = .ok (.invokestatic 217, 3) := by decide +kernel
theorem dX7_sum_12 : decode cX7_sum 12 = .ok (.ifCond .eq 7, 3) := by decide +kernel
theorem dX7_sum_15 : decode cX7_sum 15 = .ok (.iconst 0, 1) := by decide +kernel
theorem dX7_sum_16 : decode cX7_sum 16 = .ok (.goto 4, 3) := by decide +kernel
theorem dX7_sum_19 : decode cX7_sum 19 = .ok (.iconst 1, 1) := by decide +kernel
theorem dX7_sum_20 : decode cX7_sum 20 = .ok (.putfield 72, 3) := by decide +kernel
theorem dX7_sum_23 : decode cX7_sum 23 = .ok (.aload_n 0, 1) := by decide +kernel
theorem dX7_sum_24 : decode cX7_sum 24 = .ok (.getfield 72, 3) := by decide +kernel
theorem dX7_sum_27 : decode cX7_sum 27 = .ok (.ifCond .eq 5, 3) := by decide +kernel
theorem dX7_sum_30 : decode cX7_sum 30 = .ok (.lconst 0, 1) := by decide +kernel
theorem dX7_sum_31 : decode cX7_sum 31 = .ok (.lreturn, 1) := by decide +kernel
theorem dX7_sum_32 : decode cX7_sum 32 = .ok (.lconst 0, 1) := by decide +kernel
theorem dX7_sum_33 : decode cX7_sum 33 = .ok (.lstore_n 3, 1) := by decide +kernel
theorem dX7_sum_34 : decode cX7_sum 34 = .ok (.iconst 0, 1) := by decide +kernel
theorem dX7_sum_35 : decode cX7_sum 35 = .ok (.istore 5, 2) := by decide +kernel
theorem dX7_sum_37 : decode cX7_sum 37 = .ok (.aload_n 0, 1) := by decide +kernel
theorem dX7_sum_38 : decode cX7_sum 38 = .ok (.getfield 201, 3) := by decide +kernel
theorem dX7_sum_41 : decode cX7_sum 41 = .ok (.ifCond .eq 70, 3) := by decide +kernel
theorem dX7_sum_44 : decode cX7_sum 44 = .ok (.iload 5, 2) := by decide +kernel
theorem dX7_sum_46 : decode cX7_sum 46 = .ok (.aload_n 0, 1) := by decide +kernel
theorem dX7_sum_47 : decode cX7_sum 47 = .ok (.getfield 13, 3) := by decide +kernel
theorem dX7_sum_50 : decode cX7_sum 50 = .ok (.aload_n 0, 1) := by decide +kernel
theorem dX7_sum_51 : decode cX7_sum 51 = .ok (.getfield 195, 3) := by decide +kernel
theorem dX7_sum_54 : decode cX7_sum 54 = .ok (.iaload, 1) := by decide +kernel
theorem dX7_sum_55 : decode cX7_sum 55 = .ok (.if_icmp .ge 56, 3) := by decide +kernel
theorem dX7_sum_58 : decode cX7_sum 58 = .ok (.lload_n 3, 1) := by decide +kernel
theorem dX7_sum_59 : decode cX7_sum 59 = .ok (.aload_n 0, 1) := by decide +kernel
theorem dX7_sum_60 : decode cX7_sum 60 = .ok (.iload 5, 2) := by decide +kernel
theorem dX7_sum_62 : decode cX7_sum 62 = .ok (.iload_n 1, 1) := by decide +kernel
theorem dX7_sum_63 : decode cX7_sum 63 = .ok (.invokevirtual 220, 3) := by decide +kernel
theorem dX7_sum_66 : decode cX7_sum 66 = .ok (.aload_n 0, 1) := by decide +kernel
theorem dX7_sum_67 : decode cX7_sum 67 = .ok (.getfield 16, 3) := by decide +kernel
theorem dX7_sum_70 : decode cX7_sum 70 = .ok (.bipush 80, 2) := by decide +kernel
theorem dX7_sum_72 : decode cX7_sum 72 = .ok (.aload_n 0, 1) := by decide +kernel
theorem dX7_sum_73 : decode cX7_sum 73 = .ok (.getfield 195, 3) := by decide +kernel
theorem dX7_sum_76 : decode cX7_sum 76 = .ok (.imul, 1) := by decide +kernel
theorem dX7_sum_77 : decode cX7_sum 77 = .ok (.iload 5, 2) := by decide +kernel
theorem dX7_sum_79 : decode cX7_sum 79 = .ok (.iadd, 1) := by decide +kernel
theorem dX7_sum_80 : decode cX7_sum 80 = .ok (.iaload, 1) := by decide +kernel
theorem dX7_sum_81 : decode cX7_sum 81 = .ok (.ifCond .ne 18, 3) := by decide +kernel
theorem dX7_sum_84 : decode cX7_sum 84 = .ok (.aload_n 0, 1) := by decide +kernel
theorem dX7_sum_85 : decode cX7_sum 85 = .ok (.getfield 56, 3) := by decide +kernel
theorem dX7_sum_88 : decode cX7_sum 88 = .ok (.aload_n 0, 1) := by decide +kernel
theorem dX7_sum_89 : decode cX7_sum 89 = .ok (.iload 5, 2) := by decide +kernel
theorem dX7_sum_91 : decode cX7_sum 91 = .ok (.invokevirtual 233, 3) := by decide +kernel
theorem dX7_sum_94 : decode cX7_sum 94 = .ok (.iaload, 1) := by decide +kernel
theorem dX7_sum_95 : decode cX7_sum 95 = .ok (.i2l, 1) := by decide +kernel
theorem dX7_sum_96 : decode cX7_sum 96 = .ok (.goto 6, 3) := by decide +kernel
theorem dX7_sum_99 : decode cX7_sum 99 = .ok (.ldc2_w 212, 3) := by decide +kernel
theorem dX7_sum_102 : decode cX7_sum 102 = .ok (.lmul, 1) := by decide +kernel
theorem dX7_sum_103 : decode cX7_sum 103 = .ok (.ladd, 1) := by decide +kernel
theorem dX7_sum_104 : decode cX7_sum 104 = .ok (.lstore_n 3, 1) := by decide +kernel
theorem dX7_sum_105 : decode cX7_sum 105 = .ok (.iinc 5 1, 3) := by decide +kernel
theorem dX7_sum_108 : decode cX7_sum 108 = .ok (.goto (-71), 3) := by decide +kernel
theorem dX7_sum_111 : decode cX7_sum 111 = .ok (.lload_n 3, 1) := by decide +kernel
theorem dX7_sum_112 : decode cX7_sum 112 = .ok (.ldc2_w 241, 3) := by decide +kernel
theorem dX7_sum_115 : decode cX7_sum 115 = .ok (.iload_n 2, 1) := by decide +kernel
theorem dX7_sum_116 : decode cX7_sum 116 = .ok (.invokestatic 223, 3) := by decide +kernel
theorem dX7_sum_119 : decode cX7_sum 119 = .ok (.lreturn, 1) := by decide +kernel
theorem dX7_list_0 : decode cX7_list 0 = .ok (.aload_n 0, 1) := by decide +kernel
theorem dX7_list_1 : decode cX7_list 1 = .ok (.aload_n 0, 1) := by decide +kernel
theorem dX7_list_2 : decode cX7_list 2 = .ok (.getfield 201, 3) := by decide +kernel
theorem dX7_list_5 : decode cX7_list 5 = .ok (.ifCond .eq 7, 3) := by decide +kernel
theorem dX7_list_8 : decode cX7_list 8 = .ok (.iconst 0, 1) := by decide +kernel
theorem dX7_list_9 : decode cX7_list 9 = .ok (.goto 4, 3) := by decide +kernel
