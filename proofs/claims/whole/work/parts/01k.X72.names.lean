theorem dX7_number_83 : decode cX7_number 83 = .ok (.ldc2_w 127, 3) := by decide +kernel
theorem dX7_number_86 : decode cX7_number 86 = .ok (.lload 6, 2) := by decide +kernel
theorem dX7_number_88 : decode cX7_number 88 = .ok (.lmul, 1) := by decide +kernel
theorem dX7_number_89 : decode cX7_number 89 = .ok (.lstore 6, 2) := by decide +kernel
theorem dX7_number_91 : decode cX7_number 91 = .ok (.iinc 8 1, 3) := by decide +kernel
theorem dX7_number_94 : decode cX7_number 94 = .ok (.goto (-17), 3) := by decide +kernel
theorem dX7_number_97 : decode cX7_number 97 = .ok (.lload_n 3, 1) := by decide +kernel
theorem dX7_number_98 : decode cX7_number 98 = .ok (.lload 6, 2) := by decide +kernel
theorem dX7_number_100 : decode cX7_number 100 = .ok (.ladd, 1) := by decide +kernel
theorem dX7_number_101 : decode cX7_number 101 = .ok (.lreturn, 1) := by decide +kernel
theorem dX7_layerAt_0 : decode cX7_layerAt 0 = .ok (.bipush 80, 2) := by decide +kernel
theorem dX7_layerAt_2 : decode cX7_layerAt 2 = .ok (.aload_n 0, 1) := by decide +kernel
theorem dX7_layerAt_3 : decode cX7_layerAt 3 = .ok (.getfield 134, 3) := by decide +kernel
theorem dX7_layerAt_6 : decode cX7_layerAt 6 = .ok (.imul, 1) := by decide +kernel
theorem dX7_layerAt_7 : decode cX7_layerAt 7 = .ok (.iload_n 1, 1) := by decide +kernel
theorem dX7_layerAt_8 : decode cX7_layerAt 8 = .ok (.iadd, 1) := by decide +kernel
theorem dX7_layerAt_9 : decode cX7_layerAt 9 = .ok (.ireturn, 1) := by decide +kernel
set_option maxRecDepth 20000 in
theorem ggX7_copperNamed_X7_layerAt : GoodIn wsX7_copperNamed wsX7_layerAt := goodIn_r _ [12, 2, 13, 14, 15, 16, 17, 18, 19, 20, 21, 22, 23, 24, 25, 26, 27, 28, 29, 30, 31, 32, 33, 34, 35, 36, 37, 38, 39, 40, 41, 42, 43, 44, 45] (by decide +kernel) (by decide +kernel)
set_option maxRecDepth 20000 in
theorem gX7_copperNamed_X7_layerAt : GoodIn wsX7_copperNamed (wsV RX7 137 RX7 yX7_layerAt wsX7_layerAt) := goodIn_app (goodIn_of _ (by decide +kernel)) ggX7_copperNamed_X7_layerAt
theorem dX7_copperNamed_0 : decode cX7_copperNamed 0 = .ok (.iconst 0, 1) := by decide +kernel
theorem dX7_copperNamed_1 : decode cX7_copperNamed 1 = .ok (.istore_n 1, 1) := by decide +kernel
theorem dX7_copperNamed_2 : decode cX7_copperNamed 2 = .ok (.iload_n 1, 1) := by decide +kernel
theorem dX7_copperNamed_3 : decode cX7_copperNamed 3 = .ok (.aload_n 0, 1) := by decide +kernel
theorem dX7_copperNamed_4 : decode cX7_copperNamed 4 = .ok (.getfield 32, 3) := by decide +kernel
theorem dX7_copperNamed_7 : decode cX7_copperNamed 7 = .ok (.aload_n 0, 1) := by decide +kernel
theorem dX7_copperNamed_8 : decode cX7_copperNamed 8 = .ok (.getfield 134, 3) := by decide +kernel
theorem dX7_copperNamed_11 : decode cX7_copperNamed 11 = .ok (.iaload, 1) := by decide +kernel
theorem dX7_copperNamed_12 : decode cX7_copperNamed 12 = .ok (.if_icmp .ge 57, 3) := by decide +kernel
theorem dX7_copperNamed_15 : decode cX7_copperNamed 15 = .ok (.aload_n 0, 1) := by decide +kernel
theorem dX7_copperNamed_16 : decode cX7_copperNamed 16 = .ok (.aload_n 0, 1) := by decide +kernel
theorem dX7_copperNamed_17 : decode cX7_copperNamed 17 = .ok (.getfield 35, 3) := by decide +kernel
theorem dX7_copperNamed_20 : decode cX7_copperNamed 20 = .ok (.bipush 32, 2) := by decide +kernel
theorem dX7_copperNamed_22 : decode cX7_copperNamed 22 = .ok (.aload_n 0, 1) := by decide +kernel
theorem dX7_copperNamed_23 : decode cX7_copperNamed 23 = .ok (.getfield 134, 3) := by decide +kernel
theorem dX7_copperNamed_26 : decode cX7_copperNamed 26 = .ok (.imul, 1) := by decide +kernel
theorem dX7_copperNamed_27 : decode cX7_copperNamed 27 = .ok (.iload_n 1, 1) := by decide +kernel
theorem dX7_copperNamed_28 : decode cX7_copperNamed 28 = .ok (.iadd, 1) := by decide +kernel
theorem dX7_copperNamed_29 : decode cX7_copperNamed 29 = .ok (.iaload, 1) := by decide +kernel
theorem dX7_copperNamed_30 : decode cX7_copperNamed 30 = .ok (.invokevirtual 137, 3) := by decide +kernel
theorem dX7_copperNamed_33 : decode cX7_copperNamed 33 = .ok (.istore_n 2, 1) := by decide +kernel
theorem dX7_copperNamed_34 : decode cX7_copperNamed 34 = .ok (.aload_n 0, 1) := by decide +kernel
theorem dX7_copperNamed_35 : decode cX7_copperNamed 35 = .ok (.getfield 19, 3) := by decide +kernel
theorem dX7_copperNamed_38 : decode cX7_copperNamed 38 = .ok (.iload_n 2, 1) := by decide +kernel
theorem dX7_copperNamed_39 : decode cX7_copperNamed 39 = .ok (.laload, 1) := by decide +kernel
theorem dX7_copperNamed_40 : decode cX7_copperNamed 40 = .ok (.aload_n 0, 1) := by decide +kernel
theorem dX7_copperNamed_41 : decode cX7_copperNamed 41 = .ok (.getfield 113, 3) := by decide +kernel
theorem dX7_copperNamed_44 : decode cX7_copperNamed 44 = .ok (.lcmp, 1) := by decide +kernel
theorem dX7_copperNamed_45 : decode cX7_copperNamed 45 = .ok (.ifCond .ne 18, 3) := by decide +kernel
theorem dX7_copperNamed_48 : decode cX7_copperNamed 48 = .ok (.aload_n 0, 1) := by decide +kernel
theorem dX7_copperNamed_49 : decode cX7_copperNamed 49 = .ok (.getfield 23, 3) := by decide +kernel
theorem dX7_copperNamed_52 : decode cX7_copperNamed 52 = .ok (.iload_n 2, 1) := by decide +kernel
theorem dX7_copperNamed_53 : decode cX7_copperNamed 53 = .ok (.iaload, 1) := by decide +kernel
theorem dX7_copperNamed_54 : decode cX7_copperNamed 54 = .ok (.aload_n 0, 1) := by decide +kernel
theorem dX7_copperNamed_55 : decode cX7_copperNamed 55 = .ok (.getfield 117, 3) := by decide +kernel
theorem dX7_copperNamed_58 : decode cX7_copperNamed 58 = .ok (.if_icmp .ne 5, 3) := by decide +kernel
theorem dX7_copperNamed_61 : decode cX7_copperNamed 61 = .ok (.iload_n 1, 1) := by decide +kernel
theorem dX7_copperNamed_62 : decode cX7_copperNamed 62 = .ok (.ireturn, 1) := by decide +kernel
theorem dX7_copperNamed_63 : decode cX7_copperNamed 63 = .ok (.iinc 1 1, 3) := by decide +kernel
theorem dX7_copperNamed_66 : decode cX7_copperNamed 66 = .ok (.goto (-64), 3) := by decide +kernel
theorem dX7_copperNamed_69 : decode cX7_copperNamed 69 = .ok (.iconst (-1), 1) := by decide +kernel
theorem dX7_copperNamed_70 : decode cX7_copperNamed 70 = .ok (.ireturn, 1) := by decide +kernel
set_option maxRecDepth 20000 in
theorem ggX7_mayStand_X7_layerAt : GoodIn wsX7_mayStand wsX7_layerAt := goodIn_r _ [11, 2, 12, 13, 14, 15, 16, 17, 18, 19, 20, 21, 22, 23, 24, 25, 26, 27, 28, 29, 30, 31, 32, 33, 34, 35, 36, 37, 38, 39, 40, 41, 42, 43, 44] (by decide +kernel) (by decide +kernel)
set_option maxRecDepth 20000 in
theorem gX7_mayStand_X7_layerAt : GoodIn wsX7_mayStand (wsV RX7 137 RX7 yX7_layerAt wsX7_layerAt) := goodIn_app (goodIn_of _ (by decide +kernel)) ggX7_mayStand_X7_layerAt
theorem dX7_mayStand_0 : decode cX7_mayStand 0 = .ok (.aload_n 0, 1) := by decide +kernel
theorem dX7_mayStand_1 : decode cX7_mayStand 1 = .ok (.getfield 13, 3) := by decide +kernel
theorem dX7_mayStand_4 : decode cX7_mayStand 4 = .ok (.aload_n 0, 1) := by decide +kernel
theorem dX7_mayStand_5 : decode cX7_mayStand 5 = .ok (.getfield 134, 3) := by decide +kernel
theorem dX7_mayStand_8 : decode cX7_mayStand 8 = .ok (.iaload, 1) := by decide +kernel
theorem dX7_mayStand_9 : decode cX7_mayStand 9 = .ok (.istore_n 2, 1) := by decide +kernel
theorem dX7_mayStand_10 : decode cX7_mayStand 10 = .ok (.iload_n 2, 1) := by decide +kernel
theorem dX7_mayStand_11 : decode cX7_mayStand 11 = .ok (.ifCond .ne 7, 3) := by decide +kernel
theorem dX7_mayStand_14 : decode cX7_mayStand 14 = .ok (.iconst (-1), 1) := by decide +kernel
theorem dX7_mayStand_15 : decode cX7_mayStand 15 = .ok (.goto 15, 3) := by decide +kernel
theorem dX7_mayStand_18 : decode cX7_mayStand 18 = .ok (.aload_n 0, 1) := by decide +kernel
theorem dX7_mayStand_19 : decode cX7_mayStand 19 = .ok (.getfield 16, 3) := by decide +kernel
theorem dX7_mayStand_22 : decode cX7_mayStand 22 = .ok (.aload_n 0, 1) := by decide +kernel
theorem dX7_mayStand_23 : decode cX7_mayStand 23 = .ok (.iload_n 2, 1) := by decide +kernel
theorem dX7_mayStand_24 : decode cX7_mayStand 24 = .ok (.iconst 1, 1) := by decide +kernel
theorem dX7_mayStand_25 : decode cX7_mayStand 25 = .ok (.isub, 1) := by decide +kernel
theorem dX7_mayStand_26 : decode cX7_mayStand 26 = .ok (.invokevirtual 137, 3) := by decide +kernel
theorem dX7_mayStand_29 : decode cX7_mayStand 29 = .ok (.iaload, 1) := by decide +kernel
theorem dX7_mayStand_30 : decode cX7_mayStand 30 = .ok (.istore_n 3, 1) := by decide +kernel
theorem dX7_mayStand_31 : decode cX7_mayStand 31 = .ok (.iload_n 2, 1) := by decide +kernel
theorem dX7_mayStand_32 : decode cX7_mayStand 32 = .ok (.bipush 80, 2) := by decide +kernel
theorem dX7_mayStand_34 : decode cX7_mayStand 34 = .ok (.if_icmp .eq 25, 3) := by decide +kernel
theorem dX7_mayStand_37 : decode cX7_mayStand 37 = .ok (.aload_n 0, 1) := by decide +kernel
theorem dX7_mayStand_38 : decode cX7_mayStand 38 = .ok (.getfield 38, 3) := by decide +kernel
theorem dX7_mayStand_41 : decode cX7_mayStand 41 = .ok (.aload_n 0, 1) := by decide +kernel
theorem dX7_mayStand_42 : decode cX7_mayStand 42 = .ok (.getfield 134, 3) := by decide +kernel
theorem dX7_mayStand_45 : decode cX7_mayStand 45 = .ok (.iaload, 1) := by decide +kernel
theorem dX7_mayStand_46 : decode cX7_mayStand 46 = .ok (.aload_n 0, 1) := by decide +kernel
theorem dX7_mayStand_47 : decode cX7_mayStand 47 = .ok (.getfield 47, 3) := by decide +kernel
theorem dX7_mayStand_50 : decode cX7_mayStand 50 = .ok (.aload_n 0, 1) := by decide +kernel
theorem dX7_mayStand_51 : decode cX7_mayStand 51 = .ok (.getfield 134, 3) := by decide +kernel
theorem dX7_mayStand_54 : decode cX7_mayStand 54 = .ok (.iaload, 1) := by decide +kernel
theorem dX7_mayStand_55 : decode cX7_mayStand 55 = .ok (.iadd, 1) := by decide +kernel
theorem dX7_mayStand_56 : decode cX7_mayStand 56 = .ok (.ifCond .le 5, 3) := by decide +kernel
theorem dX7_mayStand_59 : decode cX7_mayStand 59 = .ok (.iconst 0, 1) := by decide +kernel
theorem dX7_mayStand_60 : decode cX7_mayStand 60 = .ok (.ireturn, 1) := by decide +kernel
theorem dX7_mayStand_61 : decode cX7_mayStand 61 = .ok (.iload_n 2, 1) := by decide +kernel
theorem dX7_mayStand_62 : decode cX7_mayStand 62 = .ok (.ifCond .ne 18, 3) := by decide +kernel
theorem dX7_mayStand_65 : decode cX7_mayStand 65 = .ok (.iload_n 1, 1) := by decide +kernel
theorem dX7_mayStand_66 : decode cX7_mayStand 66 = .ok (.iconst 3, 1) := by decide +kernel
theorem dX7_mayStand_67 : decode cX7_mayStand 67 = .ok (.if_icmp .eq 7, 3) := by decide +kernel
theorem dX7_mayStand_70 : decode cX7_mayStand 70 = .ok (.iload_n 1, 1) := by decide +kernel
theorem dX7_mayStand_71 : decode cX7_mayStand 71 = .ok (.ifCond .ne 7, 3) := by decide +kernel
theorem dX7_mayStand_74 : decode cX7_mayStand 74 = .ok (.iconst 1, 1) := by decide +kernel
theorem dX7_mayStand_75 : decode cX7_mayStand 75 = .ok (.goto 4, 3) := by decide +kernel
theorem dX7_mayStand_78 : decode cX7_mayStand 78 = .ok (.iconst 0, 1) := by decide +kernel
theorem dX7_mayStand_79 : decode cX7_mayStand 79 = .ok (.ireturn, 1) := by decide +kernel
theorem dX7_mayStand_80 : decode cX7_mayStand 80 = .ok (.iload_n 3, 1) := by decide +kernel
theorem dX7_mayStand_81 : decode cX7_mayStand 81 = .ok (.iconst 3, 1) := by decide +kernel
theorem dX7_mayStand_82 : decode cX7_mayStand 82 = .ok (.if_icmp .ne 18, 3) := by decide +kernel
theorem dX7_mayStand_85 : decode cX7_mayStand 85 = .ok (.iload_n 2, 1) := by decide +kernel
theorem dX7_mayStand_86 : decode cX7_mayStand 86 = .ok (.iconst 1, 1) := by decide +kernel
theorem dX7_mayStand_87 : decode cX7_mayStand 87 = .ok (.if_icmp .ne 11, 3) := by decide +kernel
theorem dX7_mayStand_90 : decode cX7_mayStand 90 = .ok (.iload_n 1, 1) := by decide +kernel
theorem dX7_mayStand_91 : decode cX7_mayStand 91 = .ok (.ifCond .ne 7, 3) := by decide +kernel
theorem dX7_mayStand_94 : decode cX7_mayStand 94 = .ok (.iconst 1, 1) := by decide +kernel
theorem dX7_mayStand_95 : decode cX7_mayStand 95 = .ok (.goto 4, 3) := by decide +kernel
theorem dX7_mayStand_98 : decode cX7_mayStand 98 = .ok (.iconst 0, 1) := by decide +kernel
theorem dX7_mayStand_99 : decode cX7_mayStand 99 = .ok (.ireturn, 1) := by decide +kernel
theorem dX7_mayStand_100 : decode cX7_mayStand 100 = .ok (.iload_n 1, 1) := by decide +kernel
theorem dX7_mayStand_101 : decode cX7_mayStand 101 = .ok (.iconst 3, 1) := by decide +kernel
theorem dX7_mayStand_102 : decode cX7_mayStand 102 = .ok (.if_icmp .ne 13, 3) := by decide +kernel
theorem dX7_mayStand_105 : decode cX7_mayStand 105 = .ok (.iload_n 3, 1) := by decide +kernel
theorem dX7_mayStand_106 : decode cX7_mayStand 106 = .ok (.ifCond .ne 7, 3) := by decide +kernel
theorem dX7_mayStand_109 : decode cX7_mayStand 109 = .ok (.iconst 1, 1) := by decide +kernel
theorem dX7_mayStand_110 : decode cX7_mayStand 110 = .ok (.goto 4, 3) := by decide +kernel
theorem dX7_mayStand_113 : decode cX7_mayStand 113 = .ok (.iconst 0, 1) := by decide +kernel
theorem dX7_mayStand_114 : decode cX7_mayStand 114 = .ok (.ireturn, 1) := by decide +kernel
theorem dX7_mayStand_115 : decode cX7_mayStand 115 = .ok (.iload_n 1, 1) := by decide +kernel
theorem dX7_mayStand_116 : decode cX7_mayStand 116 = .ok (.ifCond .eq 5, 3) := by decide +kernel
theorem dX7_mayStand_119 : decode cX7_mayStand 119 = .ok (.iconst 1, 1) := by decide +kernel
theorem dX7_mayStand_120 : decode cX7_mayStand 120 = .ok (.ireturn, 1) := by decide +kernel
theorem dX7_mayStand_121 : decode cX7_mayStand 121 = .ok (.aload_n 0, 1) := by decide +kernel
theorem dX7_mayStand_122 : decode cX7_mayStand 122 = .ok (.getfield 32, 3) := by decide +kernel
theorem dX7_mayStand_125 : decode cX7_mayStand 125 = .ok (.aload_n 0, 1) := by decide +kernel
theorem dX7_mayStand_126 : decode cX7_mayStand 126 = .ok (.getfield 134, 3) := by decide +kernel
theorem dX7_mayStand_129 : decode cX7_mayStand 129 = .ok (.iaload, 1) := by decide +kernel
theorem dX7_mayStand_130 : decode cX7_mayStand 130 = .ok (.ifCond .ne 7, 3) := by decide +kernel
theorem dX7_mayStand_133 : decode cX7_mayStand 133 = .ok (.iconst 1, 1) := by decide +kernel
theorem dX7_mayStand_134 : decode cX7_mayStand 134 = .ok (.goto 4, 3) := by decide +kernel
theorem dX7_mayStand_137 : decode cX7_mayStand 137 = .ok (.iconst 0, 1) := by decide +kernel
theorem dX7_mayStand_138 : decode cX7_mayStand 138 = .ok (.istore 4, 2) := by decide +kernel
theorem dX7_mayStand_140 : decode cX7_mayStand 140 = .ok (.iload_n 2, 1) := by decide +kernel
theorem dX7_mayStand_141 : decode cX7_mayStand 141 = .ok (.iconst 1, 1) := by decide +kernel
theorem dX7_mayStand_142 : decode cX7_mayStand 142 = .ok (.isub, 1) := by decide +kernel
theorem dX7_mayStand_143 : decode cX7_mayStand 143 = .ok (.istore 5, 2) := by decide +kernel
theorem dX7_mayStand_145 : decode cX7_mayStand 145 = .ok (.iload 5, 2) := by decide +kernel
theorem dX7_mayStand_147 : decode cX7_mayStand 147 = .ok (.ifCond .lt 65, 3) := by decide +kernel
theorem dX7_mayStand_150 : decode cX7_mayStand 150 = .ok (.aload_n 0, 1) := by decide +kernel
theorem dX7_mayStand_151 : decode cX7_mayStand 151 = .ok (.getfield 16, 3) := by decide +kernel
theorem dX7_mayStand_154 : decode cX7_mayStand 154 = .ok (.aload_n 0, 1) := by decide +kernel
theorem dX7_mayStand_155 : decode cX7_mayStand 155 = .ok (.iload 5, 2) := by decide +kernel
theorem dX7_mayStand_157 : decode cX7_mayStand 157 = .ok (.invokevirtual 137, 3) := by decide +kernel
theorem dX7_mayStand_160 : decode cX7_mayStand 160 = .ok (.iaload, 1) := by decide +kernel
theorem dX7_mayStand_161 : decode cX7_mayStand 161 = .ok (.ifCond .eq 51, 3) := by decide +kernel
theorem dX7_mayStand_164 : decode cX7_mayStand 164 = .ok (.iload 4, 2) := by decide +kernel
theorem dX7_mayStand_166 : decode cX7_mayStand 166 = .ok (.ifCond .ne 33, 3) := by decide +kernel
theorem dX7_mayStand_169 : decode cX7_mayStand 169 = .ok (.aload_n 0, 1) := by decide +kernel
theorem dX7_mayStand_170 : decode cX7_mayStand 170 = .ok (.getfield 16, 3) := by decide +kernel
theorem dX7_mayStand_173 : decode cX7_mayStand 173 = .ok (.aload_n 0, 1) := by decide +kernel
theorem dX7_mayStand_174 : decode cX7_mayStand 174 = .ok (.iload 5, 2) := by decide +kernel
theorem dX7_mayStand_176 : decode cX7_mayStand 176 = .ok (.invokevirtual 137, 3) := by decide +kernel
theorem dX7_mayStand_179 : decode cX7_mayStand 179 = .ok (.iaload, 1) := by decide +kernel
theorem dX7_mayStand_180 : decode cX7_mayStand 180 = .ok (.iconst 1, 1) := by decide +kernel
theorem dX7_mayStand_181 : decode cX7_mayStand 181 = .ok (.if_icmp .eq 18, 3) := by decide +kernel
theorem dX7_mayStand_184 : decode cX7_mayStand 184 = .ok (.aload_n 0, 1) := by decide +kernel
theorem dX7_mayStand_185 : decode cX7_mayStand 185 = .ok (.getfield 16, 3) := by decide +kernel
theorem dX7_mayStand_188 : decode cX7_mayStand 188 = .ok (.aload_n 0, 1) := by decide +kernel
theorem dX7_mayStand_189 : decode cX7_mayStand 189 = .ok (.iload 5, 2) := by decide +kernel
theorem dX7_mayStand_191 : decode cX7_mayStand 191 = .ok (.invokevirtual 137, 3) := by decide +kernel
theorem dX7_mayStand_194 : decode cX7_mayStand 194 = .ok (.iaload, 1) := by decide +kernel
theorem dX7_mayStand_195 : decode cX7_mayStand 195 = .ok (.iconst 2, 1) := by decide +kernel
theorem dX7_mayStand_196 : decode cX7_mayStand 196 = .ok (.if_icmp .ne 7, 3) := by decide +kernel
theorem dX7_mayStand_199 : decode cX7_mayStand 199 = .ok (.iconst 1, 1) := by decide +kernel
theorem dX7_mayStand_200 : decode cX7_mayStand 200 = .ok (.goto 4, 3) := by decide +kernel
theorem dX7_mayStand_203 : decode cX7_mayStand 203 = .ok (.iconst 0, 1) := by decide +kernel
theorem dX7_mayStand_204 : decode cX7_mayStand 204 = .ok (.istore 4, 2) := by decide +kernel
theorem dX7_mayStand_206 : decode cX7_mayStand 206 = .ok (.iinc 5 (-1), 3) := by decide +kernel
theorem dX7_mayStand_209 : decode cX7_mayStand 209 = .ok (.goto (-64), 3) := by decide +kernel
theorem dX7_mayStand_212 : decode cX7_mayStand 212 = .ok (.iload 4, 2) := by decide +kernel
theorem dX7_mayStand_214 : decode cX7_mayStand 214 = .ok (.ifCond .eq 21, 3) := by decide +kernel
theorem dX7_mayStand_217 : decode cX7_mayStand 217 = .ok (.aload_n 0, 1) := by decide +kernel
theorem dX7_mayStand_218 : decode cX7_mayStand 218 = .ok (.getfield 32, 3) := by decide +kernel
theorem dX7_mayStand_221 : decode cX7_mayStand 221 = .ok (.aload_n 0, 1) := by decide +kernel
theorem dX7_mayStand_222 : decode cX7_mayStand 222 = .ok (.getfield 134, 3) := by decide +kernel
theorem dX7_mayStand_225 : decode cX7_mayStand 225 = .ok (.iaload, 1) := by decide +kernel
theorem dX7_mayStand_226 : decode cX7_mayStand 226 = .ok (.bipush 32, 2) := by decide +kernel
theorem dX7_mayStand_228 : decode cX7_mayStand 228 = .ok (.if_icmp .ge 7, 3) := by decide +kernel
theorem dX7_mayStand_231 : decode cX7_mayStand 231 = .ok (.iconst 1, 1) := by decide +kernel
theorem dX7_mayStand_232 : decode cX7_mayStand 232 = .ok (.goto 4, 3) := by decide +kernel
theorem dX7_mayStand_235 : decode cX7_mayStand 235 = .ok (.iconst 0, 1) := by decide +kernel
theorem dX7_mayStand_236 : decode cX7_mayStand 236 = .ok (.ireturn, 1) := by decide +kernel
set_option maxRecDepth 20000 in
theorem ggX7_layerLine_X7_mayStand : GoodIn wsX7_layerLine wsX7_mayStand := goodIn_r _ [18, 2, 3, 4, 19, 20, 13, 21, 22, 23, 17, 24, 68, 69, 70, 71, 72, 73, 74, 75, 76, 77, 78, 79, 80, 81, 82, 83, 84, 85, 86, 87, 88, 89, 90, 91, 92, 93, 94, 95, 96, 97, 98, 99, 100] (by decide +kernel) (by decide +kernel)
set_option maxRecDepth 20000 in
theorem gX7_layerLine_X7_mayStand : GoodIn wsX7_layerLine (wsV RX7 141 RX7 yX7_mayStand wsX7_mayStand) := goodIn_app (goodIn_of _ (by decide +kernel)) ggX7_layerLine_X7_mayStand
set_option maxRecDepth 20000 in
theorem ggX7_layerLine_X7_fail : GoodIn wsX7_layerLine wsX7_fail := goodIn_r _ [28, 29, 68, 69, 70, 71, 72, 73, 74, 75, 76, 77, 78, 79, 80, 81, 82, 83, 84, 85, 86, 87, 88, 89, 90, 91, 92, 93, 94, 95, 96, 97, 98, 99, 100] (by decide +kernel) (by decide +kernel)
set_option maxRecDepth 20000 in
theorem gX7_layerLine_X7_fail : GoodIn wsX7_layerLine (wsV RX7 93 RX7 yX7_fail wsX7_fail) := goodIn_app (goodIn_of _ (by decide +kernel)) ggX7_layerLine_X7_fail
set_option maxRecDepth 20000 in
theorem ggX7_layerLine_X7_expect : GoodIn wsX7_layerLine wsX7_expect := goodIn_r _ [33, 1, 34, 35, 36, 17, 37, 29, 38, 39, 40, 41, 42, 43, 25, 26, 27, 28, 68, 69, 70, 71, 72, 73, 74, 75, 76, 77, 78, 79, 80, 81, 82, 83, 84, 85, 86, 87, 88, 89, 90, 91, 92, 93, 94, 95, 96, 97, 98, 99, 100] (by decide +kernel) (by decide +kernel)
set_option maxRecDepth 20000 in
theorem gX7_layerLine_X7_expect : GoodIn wsX7_layerLine (wsV RX7 144 RX7 yX7_expect wsX7_expect) := goodIn_app (goodIn_of _ (by decide +kernel)) ggX7_layerLine_X7_expect
set_option maxRecDepth 20000 in
theorem ggX7_layerLine_X7_name : GoodIn wsX7_layerLine wsX7_name := goodIn_r _ [47, 6, 8, 1, 34, 35, 36, 17, 37, 29, 38, 39, 40, 41, 42, 43, 48, 49, 50, 25, 26, 27, 28, 68, 69, 70, 71, 72, 73, 74, 75, 76, 77, 78, 79, 80, 81, 82, 83, 84, 85, 86, 87, 88, 89, 90, 91, 92, 93, 94, 95, 96, 97, 98, 99, 100] (by decide +kernel) (by decide +kernel)
set_option maxRecDepth 20000 in
theorem gX7_layerLine_X7_name : GoodIn wsX7_layerLine (wsV RX7 147 RX7 yX7_name wsX7_name) := goodIn_app (goodIn_of _ (by decide +kernel)) ggX7_layerLine_X7_name
set_option maxRecDepth 20000 in
theorem ggX7_layerLine_X7_good : GoodIn wsX7_layerLine wsX7_good := goodIn_r _ [37, 29, 68, 69, 70, 71, 72, 73, 74, 75, 76, 77, 78, 79, 80, 81, 82, 83, 84, 85, 86, 87, 88, 89, 90, 91, 92, 93, 94, 95, 96, 97, 98, 99, 100] (by decide +kernel) (by decide +kernel)
set_option maxRecDepth 20000 in
theorem gX7_layerLine_X7_good : GoodIn wsX7_layerLine (wsV RX7 85 RX7 yX7_good wsX7_good) := goodIn_app (goodIn_of _ (by decide +kernel)) ggX7_layerLine_X7_good
set_option maxRecDepth 20000 in
theorem ggX7_layerLine_X7_copperNamed : GoodIn wsX7_layerLine wsX7_copperNamed := goodIn_r _ [54, 13, 3, 12, 5, 6, 7, 8, 21, 22, 23, 17, 24, 68, 69, 70, 71, 72, 73, 74, 75, 76, 77, 78, 79, 80, 81, 82, 83, 84, 85, 86, 87, 88, 89, 90, 91, 92, 93, 94, 95, 96, 97, 98, 99, 100] (by decide +kernel) (by decide +kernel)
set_option maxRecDepth 20000 in
theorem gX7_layerLine_X7_copperNamed : GoodIn wsX7_layerLine (wsV RX7 150 RX7 yX7_copperNamed wsX7_copperNamed) := goodIn_app (goodIn_of _ (by decide +kernel)) ggX7_layerLine_X7_copperNamed
set_option maxRecDepth 20000 in
theorem ggX7_layerLine_X7_layerAt : GoodIn wsX7_layerLine wsX7_layerAt := goodIn_r _ [24, 3, 68, 69, 70, 71, 72, 73, 74, 75, 76, 77, 78, 79, 80, 81, 82, 83, 84, 85, 86, 87, 88, 89, 90, 91, 92, 93, 94, 95, 96, 97, 98, 99, 100] (by decide +kernel) (by decide +kernel)
set_option maxRecDepth 20000 in
theorem gX7_layerLine_X7_layerAt : GoodIn wsX7_layerLine (wsV RX7 137 RX7 yX7_layerAt wsX7_layerAt) := goodIn_app (goodIn_of _ (by decide +kernel)) ggX7_layerLine_X7_layerAt
set_option maxRecDepth 20000 in
theorem ggX7_layerLine_X7_number : GoodIn wsX7_layerLine wsX7_number := goodIn_r _ [58, 59, 1, 60, 61, 62, 17, 63, 64, 34, 35, 36, 37, 29, 38, 39, 40, 41, 42, 43, 65, 66, 67, 25, 26, 27, 28, 68, 69, 70, 71, 72, 73, 74, 75, 76, 77, 78, 79, 80, 81, 82, 83, 84, 85, 86, 87, 88, 89, 90, 91, 92, 93, 94, 95, 96, 97, 98, 99, 100] (by decide +kernel) (by decide +kernel)
set_option maxRecDepth 20000 in
theorem gX7_layerLine_X7_number : GoodIn wsX7_layerLine (wsV RX7 153 RX7 yX7_number wsX7_number) := goodIn_app (goodIn_of _ (by decide +kernel)) ggX7_layerLine_X7_number
theorem dX7_layerLine_0 : decode cX7_layerLine 0 = .ok (.aload_n 0, 1) := by decide +kernel
theorem dX7_layerLine_1 : decode cX7_layerLine 1 = .ok (.iload_n 1, 1) := by decide +kernel
theorem dX7_layerLine_2 : decode cX7_layerLine 2 = .ok (.invokevirtual 141, 3) := by decide +kernel
theorem dX7_layerLine_5 : decode cX7_layerLine 5 = .ok (.ifCond .ne 9, 3) := by decide +kernel
theorem dX7_layerLine_8 : decode cX7_layerLine 8 = .ok (.aload_n 0, 1) := by decide +kernel
theorem dX7_layerLine_9 : decode cX7_layerLine 9 = .ok (.iload_n 2, 1) := by decide +kernel
theorem dX7_layerLine_10 : decode cX7_layerLine 10 = .ok (.invokevirtual 93, 3) := by decide +kernel
theorem dX7_layerLine_13 : decode cX7_layerLine 13 = .ok (.return_, 1) := by decide +kernel
theorem dX7_layerLine_14 : decode cX7_layerLine 14 = .ok (.aload_n 0, 1) := by decide +kernel
theorem dX7_layerLine_15 : decode cX7_layerLine 15 = .ok (.bipush 32, 2) := by decide +kernel
theorem dX7_layerLine_17 : decode cX7_layerLine 17 = .ok (.invokevirtual 144, 3) := by decide +kernel
theorem dX7_layerLine_20 : decode cX7_layerLine 20 = .ok (.aload_n 0, 1) := by decide +kernel
theorem dX7_layerLine_21 : decode cX7_layerLine 21 = .ok (.getfield 79, 3) := by decide +kernel
theorem dX7_layerLine_24 : decode cX7_layerLine 24 = .ok (.istore_n 3, 1) := by decide +kernel
theorem dX7_layerLine_25 : decode cX7_layerLine 25 = .ok (.aload_n 0, 1) := by decide +kernel
theorem dX7_layerLine_26 : decode cX7_layerLine 26 = .ok (.invokevirtual 147, 3) := by decide +kernel
theorem dX7_layerLine_29 : decode cX7_layerLine 29 = .ok (.aload_n 0, 1) := by decide +kernel
theorem dX7_layerLine_30 : decode cX7_layerLine 30 = .ok (.invokevirtual 85, 3) := by decide +kernel
theorem dX7_layerLine_33 : decode cX7_layerLine 33 = .ok (.ifCond .eq 20, 3) := by decide +kernel
theorem dX7_layerLine_36 : decode cX7_layerLine 36 = .ok (.iload_n 1, 1) := by decide +kernel
theorem dX7_layerLine_37 : decode cX7_layerLine 37 = .ok (.ifCond .ne 16, 3) := by decide +kernel
theorem dX7_layerLine_40 : decode cX7_layerLine 40 = .ok (.aload_n 0, 1) := by decide +kernel
theorem dX7_layerLine_41 : decode cX7_layerLine 41 = .ok (.invokevirtual 150, 3) := by decide +kernel
theorem dX7_layerLine_44 : decode cX7_layerLine 44 = .ok (.iconst (-1), 1) := by decide +kernel
theorem dX7_layerLine_45 : decode cX7_layerLine 45 = .ok (.if_icmp .eq 8, 3) := by decide +kernel
theorem dX7_layerLine_48 : decode cX7_layerLine 48 = .ok (.aload_n 0, 1) := by decide +kernel
theorem dX7_layerLine_49 : decode cX7_layerLine 49 = .ok (.iload_n 3, 1) := by decide +kernel
theorem dX7_layerLine_50 : decode cX7_layerLine 50 = .ok (.invokevirtual 93, 3) := by decide +kernel
theorem dX7_layerLine_53 : decode cX7_layerLine 53 = .ok (.aload_n 0, 1) := by decide +kernel
theorem dX7_layerLine_54 : decode cX7_layerLine 54 = .ok (.aload_n 0, 1) := by decide +kernel
theorem dX7_layerLine_55 : decode cX7_layerLine 55 = .ok (.getfield 13, 3) := by decide +kernel
theorem dX7_layerLine_58 : decode cX7_layerLine 58 = .ok (.aload_n 0, 1) := by decide +kernel
theorem dX7_layerLine_59 : decode cX7_layerLine 59 = .ok (.getfield 134, 3) := by decide +kernel
theorem dX7_layerLine_62 : decode cX7_layerLine 62 = .ok (.iaload, 1) := by decide +kernel
theorem dX7_layerLine_63 : decode cX7_layerLine 63 = .ok (.invokevirtual 137, 3) := by decide +kernel
theorem dX7_layerLine_66 : decode cX7_layerLine 66 = .ok (.istore 4, 2) := by decide +kernel
theorem dX7_layerLine_68 : decode cX7_layerLine 68 = .ok (.aload_n 0, 1) := by decide +kernel
theorem dX7_layerLine_69 : decode cX7_layerLine 69 = .ok (.invokevirtual 85, 3) := by decide +kernel
theorem dX7_layerLine_72 : decode cX7_layerLine 72 = .ok (.ifCond .eq 49, 3) := by decide +kernel
theorem dX7_layerLine_75 : decode cX7_layerLine 75 = .ok (.aload_n 0, 1) := by decide +kernel
theorem dX7_layerLine_76 : decode cX7_layerLine 76 = .ok (.getfield 16, 3) := by decide +kernel
theorem dX7_layerLine_79 : decode cX7_layerLine 79 = .ok (.iload 4, 2) := by decide +kernel
theorem dX7_layerLine_81 : decode cX7_layerLine 81 = .ok (.iload_n 1, 1) := by decide +kernel
theorem dX7_layerLine_82 : decode cX7_layerLine 82 = .ok (.iastore, 1) := by decide +kernel
theorem dX7_layerLine_83 : decode cX7_layerLine 83 = .ok (.aload_n 0, 1) := by decide +kernel
theorem dX7_layerLine_84 : decode cX7_layerLine 84 = .ok (.getfield 19, 3) := by decide +kernel
theorem dX7_layerLine_87 : decode cX7_layerLine 87 = .ok (.iload 4, 2) := by decide +kernel
theorem dX7_layerLine_89 : decode cX7_layerLine 89 = .ok (.aload_n 0, 1) := by decide +kernel
theorem dX7_layerLine_90 : decode cX7_layerLine 90 = .ok (.getfield 113, 3) := by decide +kernel
theorem dX7_layerLine_93 : decode cX7_layerLine 93 = .ok (.lastore, 1) := by decide +kernel
theorem dX7_layerLine_94 : decode cX7_layerLine 94 = .ok (.aload_n 0, 1) := by decide +kernel
theorem dX7_layerLine_95 : decode cX7_layerLine 95 = .ok (.getfield 23, 3) := by decide +kernel
theorem dX7_layerLine_98 : decode cX7_layerLine 98 = .ok (.iload 4, 2) := by decide +kernel
theorem dX7_layerLine_100 : decode cX7_layerLine 100 = .ok (.aload_n 0, 1) := by decide +kernel
theorem dX7_layerLine_101 : decode cX7_layerLine 101 = .ok (.getfield 117, 3) := by decide +kernel
theorem dX7_layerLine_104 : decode cX7_layerLine 104 = .ok (.iastore, 1) := by decide +kernel
theorem dX7_layerLine_105 : decode cX7_layerLine 105 = .ok (.aload_n 0, 1) := by decide +kernel
theorem dX7_layerLine_106 : decode cX7_layerLine 106 = .ok (.getfield 26, 3) := by decide +kernel
theorem dX7_layerLine_109 : decode cX7_layerLine 109 = .ok (.iload 4, 2) := by decide +kernel
theorem dX7_layerLine_111 : decode cX7_layerLine 111 = .ok (.lconst 0, 1) := by decide +kernel
theorem dX7_layerLine_112 : decode cX7_layerLine 112 = .ok (.lastore, 1) := by decide +kernel
theorem dX7_layerLine_113 : decode cX7_layerLine 113 = .ok (.aload_n 0, 1) := by decide +kernel
theorem dX7_layerLine_114 : decode cX7_layerLine 114 = .ok (.getfield 29, 3) := by decide +kernel
theorem dX7_layerLine_117 : decode cX7_layerLine 117 = .ok (.iload 4, 2) := by decide +kernel
theorem dX7_layerLine_119 : decode cX7_layerLine 119 = .ok (.iconst 0, 1) := by decide +kernel
theorem dX7_layerLine_120 : decode cX7_layerLine 120 = .ok (.iastore, 1) := by decide +kernel
theorem dX7_layerLine_121 : decode cX7_layerLine 121 = .ok (.iload_n 1, 1) := by decide +kernel
theorem dX7_layerLine_122 : decode cX7_layerLine 122 = .ok (.iconst 4, 1) := by decide +kernel
theorem dX7_layerLine_123 : decode cX7_layerLine 123 = .ok (.if_icmp .eq 83, 3) := by decide +kernel
theorem dX7_layerLine_126 : decode cX7_layerLine 126 = .ok (.aload_n 0, 1) := by decide +kernel
theorem dX7_layerLine_127 : decode cX7_layerLine 127 = .ok (.bipush 32, 2) := by decide +kernel
theorem dX7_layerLine_129 : decode cX7_layerLine 129 = .ok (.invokevirtual 144, 3) := by decide +kernel
theorem dX7_layerLine_132 : decode cX7_layerLine 132 = .ok (.aload_n 0, 1) := by decide +kernel
theorem dX7_layerLine_133 : decode cX7_layerLine 133 = .ok (.iconst 4, 1) := by decide +kernel
theorem dX7_layerLine_134 : decode cX7_layerLine 134 = .ok (.iconst 3, 1) := by decide +kernel
theorem dX7_layerLine_135 : decode cX7_layerLine 135 = .ok (.invokevirtual 153, 3) := by decide +kernel
theorem dX7_layerLine_138 : decode cX7_layerLine 138 = .ok (.lstore 5, 2) := by decide +kernel
theorem dX7_layerLine_140 : decode cX7_layerLine 140 = .ok (.aload_n 0, 1) := by decide +kernel
theorem dX7_layerLine_141 : decode cX7_layerLine 141 = .ok (.bipush 32, 2) := by decide +kernel
theorem dX7_layerLine_143 : decode cX7_layerLine 143 = .ok (.invokevirtual 144, 3) := by decide +kernel
theorem dX7_layerLine_146 : decode cX7_layerLine 146 = .ok (.aload_n 0, 1) := by decide +kernel
theorem dX7_layerLine_147 : decode cX7_layerLine 147 = .ok (.getfield 79, 3) := by decide +kernel
theorem dX7_layerLine_150 : decode cX7_layerLine 150 = .ok (.istore_n 3, 1) := by decide +kernel
theorem dX7_layerLine_151 : decode cX7_layerLine 151 = .ok (.aload_n 0, 1) := by decide +kernel
theorem dX7_layerLine_152 : decode cX7_layerLine 152 = .ok (.iconst 2, 1) := by decide +kernel
theorem dX7_layerLine_153 : decode cX7_layerLine 153 = .ok (.iconst 1, 1) := by decide +kernel
theorem dX7_layerLine_154 : decode cX7_layerLine 154 = .ok (.invokevirtual 153, 3) := by decide +kernel
theorem dX7_layerLine_157 : decode cX7_layerLine 157 = .ok (.lstore 7, 2) := by decide +kernel
theorem dX7_layerLine_159 : decode cX7_layerLine 159 = .ok (.aload_n 0, 1) := by decide +kernel
theorem dX7_layerLine_160 : decode cX7_layerLine 160 = .ok (.invokevirtual 85, 3) := by decide +kernel
