theorem dX7_sayName_23 : decode cX7_sayName 23 = .ok (.isub, 1) := by decide +kernel
theorem dX7_sayName_24 : decode cX7_sayName 24 = .ok (.istore_n 3, 1) := by decide +kernel
theorem dX7_sayName_25 : decode cX7_sayName 25 = .ok (.iload_n 3, 1) := by decide +kernel
theorem dX7_sayName_26 : decode cX7_sayName 26 = .ok (.ifCond .lt 29, 3) := by decide +kernel
theorem dX7_sayName_29 : decode cX7_sayName 29 = .ok (.aload_n 0, 1) := by decide +kernel
theorem dX7_sayName_30 : decode cX7_sayName 30 = .ok (.aload_n 0, 1) := by decide +kernel
theorem dX7_sayName_31 : decode cX7_sayName 31 = .ok (.getfield 19, 3) := by decide +kernel
theorem dX7_sayName_34 : decode cX7_sayName 34 = .ok (.iload_n 2, 1) := by decide +kernel
theorem dX7_sayName_35 : decode cX7_sayName 35 = .ok (.laload, 1) := by decide +kernel
theorem dX7_sayName_36 : decode cX7_sayName 36 = .ok (.bipush 7, 2) := by decide +kernel
theorem dX7_sayName_38 : decode cX7_sayName 38 = .ok (.iload_n 3, 1) := by decide +kernel
theorem dX7_sayName_39 : decode cX7_sayName 39 = .ok (.imul, 1) := by decide +kernel
theorem dX7_sayName_40 : decode cX7_sayName 40 = .ok (.lshr, 1) := by decide +kernel
theorem dX7_sayName_41 : decode cX7_sayName 41 = .ok (.ldc2_w 255, 3) := by decide +kernel
theorem dX7_sayName_44 : decode cX7_sayName 44 = .ok (.land, 1) := by decide +kernel
theorem dX7_sayName_45 : decode cX7_sayName 45 = .ok (.l2i, 1) := by decide +kernel
theorem dX7_sayName_46 : decode cX7_sayName 46 = .ok (.invokevirtual 252, 3) := by decide +kernel
theorem dX7_sayName_49 : decode cX7_sayName 49 = .ok (.iinc 3 (-1), 3) := by decide +kernel
theorem dX7_sayName_52 : decode cX7_sayName 52 = .ok (.goto (-27), 3) := by decide +kernel
theorem dX7_sayName_55 : decode cX7_sayName 55 = .ok (.return_, 1) := by decide +kernel
set_option maxRecDepth 20000 in
theorem ggX7_sayNumber_X7_say : GoodIn wsX7_sayNumber wsX7_say := goodIn_r _ [6, 7, 8, 9, 10, 11, 12, 13, 14, 15, 16, 17, 18, 19, 20, 21, 22, 23, 24, 25, 26, 27, 28, 29, 30, 31, 32, 33, 34, 35, 36, 37, 38, 39, 40, 41] (by decide +kernel) (by decide +kernel)
set_option maxRecDepth 20000 in
theorem gX7_sayNumber_X7_say : GoodIn wsX7_sayNumber (wsV RX7 252 RX7 yX7_say wsX7_say) := goodIn_app (goodIn_of _ (by decide +kernel)) ggX7_sayNumber_X7_say
theorem dX7_sayNumber_0 : decode cX7_sayNumber 0 = .ok (.aload_n 0, 1) := by decide +kernel
theorem dX7_sayNumber_1 : decode cX7_sayNumber 1 = .ok (.bipush 32, 2) := by decide +kernel
theorem dX7_sayNumber_3 : decode cX7_sayNumber 3 = .ok (.invokevirtual 252, 3) := by decide +kernel
theorem dX7_sayNumber_6 : decode cX7_sayNumber 6 = .ok (.lload_n 1, 1) := by decide +kernel
theorem dX7_sayNumber_7 : decode cX7_sayNumber 7 = .ok (.lload_n 3, 1) := by decide +kernel
theorem dX7_sayNumber_8 : decode cX7_sayNumber 8 = .ok (.ldiv, 1) := by decide +kernel
theorem dX7_sayNumber_9 : decode cX7_sayNumber 9 = .ok (.lstore 5, 2) := by decide +kernel
theorem dX7_sayNumber_11 : decode cX7_sayNumber 11 = .ok (.lconst 1, 1) := by decide +kernel
theorem dX7_sayNumber_12 : decode cX7_sayNumber 12 = .ok (.lstore 7, 2) := by decide +kernel
theorem dX7_sayNumber_14 : decode cX7_sayNumber 14 = .ok (.lload 5, 2) := by decide +kernel
theorem dX7_sayNumber_16 : decode cX7_sayNumber 16 = .ok (.lload 7, 2) := by decide +kernel
theorem dX7_sayNumber_18 : decode cX7_sayNumber 18 = .ok (.ldiv, 1) := by decide +kernel
theorem dX7_sayNumber_19 : decode cX7_sayNumber 19 = .ok (.ldc2_w 127, 3) := by decide +kernel
theorem dX7_sayNumber_22 : decode cX7_sayNumber 22 = .ok (.lcmp, 1) := by decide +kernel
theorem dX7_sayNumber_23 : decode cX7_sayNumber 23 = .ok (.ifCond .lt 14, 3) := by decide +kernel
theorem dX7_sayNumber_26 : decode cX7_sayNumber 26 = .ok (.ldc2_w 127, 3) := by decide +kernel
theorem dX7_sayNumber_29 : decode cX7_sayNumber 29 = .ok (.lload 7, 2) := by decide +kernel
theorem dX7_sayNumber_31 : decode cX7_sayNumber 31 = .ok (.lmul, 1) := by decide +kernel
theorem dX7_sayNumber_32 : decode cX7_sayNumber 32 = .ok (.lstore 7, 2) := by decide +kernel
theorem dX7_sayNumber_34 : decode cX7_sayNumber 34 = .ok (.goto (-20), 3) := by decide +kernel
theorem dX7_sayNumber_37 : decode cX7_sayNumber 37 = .ok (.lload 7, 2) := by decide +kernel
theorem dX7_sayNumber_39 : decode cX7_sayNumber 39 = .ok (.lconst 0, 1) := by decide +kernel
theorem dX7_sayNumber_40 : decode cX7_sayNumber 40 = .ok (.lcmp, 1) := by decide +kernel
theorem dX7_sayNumber_41 : decode cX7_sayNumber 41 = .ok (.ifCond .le 31, 3) := by decide +kernel
theorem dX7_sayNumber_44 : decode cX7_sayNumber 44 = .ok (.aload_n 0, 1) := by decide +kernel
theorem dX7_sayNumber_45 : decode cX7_sayNumber 45 = .ok (.lload 5, 2) := by decide +kernel
theorem dX7_sayNumber_47 : decode cX7_sayNumber 47 = .ok (.lload 7, 2) := by decide +kernel
theorem dX7_sayNumber_49 : decode cX7_sayNumber 49 = .ok (.ldiv, 1) := by decide +kernel
theorem dX7_sayNumber_50 : decode cX7_sayNumber 50 = .ok (.ldc2_w 127, 3) := by decide +kernel
theorem dX7_sayNumber_53 : decode cX7_sayNumber 53 = .ok (.lrem, 1) := by decide +kernel
theorem dX7_sayNumber_54 : decode cX7_sayNumber 54 = .ok (.l2i, 1) := by decide +kernel
theorem dX7_sayNumber_55 : decode cX7_sayNumber 55 = .ok (.bipush 48, 2) := by decide +kernel
theorem dX7_sayNumber_57 : decode cX7_sayNumber 57 = .ok (.iadd, 1) := by decide +kernel
theorem dX7_sayNumber_58 : decode cX7_sayNumber 58 = .ok (.invokevirtual 252, 3) := by decide +kernel
theorem dX7_sayNumber_61 : decode cX7_sayNumber 61 = .ok (.lload 7, 2) := by decide +kernel
theorem dX7_sayNumber_63 : decode cX7_sayNumber 63 = .ok (.ldc2_w 127, 3) := by decide +kernel
theorem dX7_sayNumber_66 : decode cX7_sayNumber 66 = .ok (.ldiv, 1) := by decide +kernel
theorem dX7_sayNumber_67 : decode cX7_sayNumber 67 = .ok (.lstore 7, 2) := by decide +kernel
theorem dX7_sayNumber_69 : decode cX7_sayNumber 69 = .ok (.goto (-32), 3) := by decide +kernel
theorem dX7_sayNumber_72 : decode cX7_sayNumber 72 = .ok (.lload_n 1, 1) := by decide +kernel
theorem dX7_sayNumber_73 : decode cX7_sayNumber 73 = .ok (.lload_n 3, 1) := by decide +kernel
theorem dX7_sayNumber_74 : decode cX7_sayNumber 74 = .ok (.lrem, 1) := by decide +kernel
theorem dX7_sayNumber_75 : decode cX7_sayNumber 75 = .ok (.lstore 9, 2) := by decide +kernel
theorem dX7_sayNumber_77 : decode cX7_sayNumber 77 = .ok (.lload 9, 2) := by decide +kernel
theorem dX7_sayNumber_79 : decode cX7_sayNumber 79 = .ok (.lconst 0, 1) := by decide +kernel
theorem dX7_sayNumber_80 : decode cX7_sayNumber 80 = .ok (.lcmp, 1) := by decide +kernel
theorem dX7_sayNumber_81 : decode cX7_sayNumber 81 = .ok (.ifCond .le 9, 3) := by decide +kernel
theorem dX7_sayNumber_84 : decode cX7_sayNumber 84 = .ok (.aload_n 0, 1) := by decide +kernel
theorem dX7_sayNumber_85 : decode cX7_sayNumber 85 = .ok (.bipush 46, 2) := by decide +kernel
theorem dX7_sayNumber_87 : decode cX7_sayNumber 87 = .ok (.invokevirtual 252, 3) := by decide +kernel
theorem dX7_sayNumber_90 : decode cX7_sayNumber 90 = .ok (.lload_n 3, 1) := by decide +kernel
theorem dX7_sayNumber_91 : decode cX7_sayNumber 91 = .ok (.ldc2_w 127, 3) := by decide +kernel
theorem dX7_sayNumber_94 : decode cX7_sayNumber 94 = .ok (.ldiv, 1) := by decide +kernel
theorem dX7_sayNumber_95 : decode cX7_sayNumber 95 = .ok (.lstore 7, 2) := by decide +kernel
theorem dX7_sayNumber_97 : decode cX7_sayNumber 97 = .ok (.lload 9, 2) := by decide +kernel
theorem dX7_sayNumber_99 : decode cX7_sayNumber 99 = .ok (.lconst 0, 1) := by decide +kernel
theorem dX7_sayNumber_100 : decode cX7_sayNumber 100 = .ok (.lcmp, 1) := by decide +kernel
theorem dX7_sayNumber_101 : decode cX7_sayNumber 101 = .ok (.ifCond .le 34, 3) := by decide +kernel
theorem dX7_sayNumber_104 : decode cX7_sayNumber 104 = .ok (.aload_n 0, 1) := by decide +kernel
theorem dX7_sayNumber_105 : decode cX7_sayNumber 105 = .ok (.lload 9, 2) := by decide +kernel
theorem dX7_sayNumber_107 : decode cX7_sayNumber 107 = .ok (.lload 7, 2) := by decide +kernel
theorem dX7_sayNumber_109 : decode cX7_sayNumber 109 = .ok (.ldiv, 1) := by decide +kernel
theorem dX7_sayNumber_110 : decode cX7_sayNumber 110 = .ok (.l2i, 1) := by decide +kernel
theorem dX7_sayNumber_111 : decode cX7_sayNumber 111 = .ok (.bipush 48, 2) := by decide +kernel
theorem dX7_sayNumber_113 : decode cX7_sayNumber 113 = .ok (.iadd, 1) := by decide +kernel
theorem dX7_sayNumber_114 : decode cX7_sayNumber 114 = .ok (.invokevirtual 252, 3) := by decide +kernel
theorem dX7_sayNumber_117 : decode cX7_sayNumber 117 = .ok (.lload 9, 2) := by decide +kernel
theorem dX7_sayNumber_119 : decode cX7_sayNumber 119 = .ok (.lload 7, 2) := by decide +kernel
theorem dX7_sayNumber_121 : decode cX7_sayNumber 121 = .ok (.lrem, 1) := by decide +kernel
theorem dX7_sayNumber_122 : decode cX7_sayNumber 122 = .ok (.lstore 9, 2) := by decide +kernel
theorem dX7_sayNumber_124 : decode cX7_sayNumber 124 = .ok (.lload 7, 2) := by decide +kernel
theorem dX7_sayNumber_126 : decode cX7_sayNumber 126 = .ok (.ldc2_w 127, 3) := by decide +kernel
theorem dX7_sayNumber_129 : decode cX7_sayNumber 129 = .ok (.ldiv, 1) := by decide +kernel
theorem dX7_sayNumber_130 : decode cX7_sayNumber 130 = .ok (.lstore 7, 2) := by decide +kernel
theorem dX7_sayNumber_132 : decode cX7_sayNumber 132 = .ok (.goto (-35), 3) := by decide +kernel
theorem dX7_sayNumber_135 : decode cX7_sayNumber 135 = .ok (.return_, 1) := by decide +kernel
set_option maxRecDepth 20000 in
theorem ggX7_writeAll_X7_sayWord : GoodIn wsX7_writeAll wsX7_sayWord := goodIn_r _ [19, 20, 21, 18, 22, 23, 24, 25, 26, 27, 28, 29, 30, 31, 32, 33, 34, 35, 1, 52, 53, 54, 55, 56, 57, 58, 59, 60, 61, 62, 63, 64, 65, 66, 67, 68, 69, 70, 71, 72, 73, 74, 75, 76, 77, 78, 79, 80, 81, 82, 83, 84] (by decide +kernel) (by decide +kernel)
set_option maxRecDepth 20000 in
theorem gX7_writeAll_X7_sayWord : GoodIn wsX7_writeAll (wsV RX7 257 RX7 yX7_sayWord wsX7_sayWord) := goodIn_app (goodIn_of _ (by decide +kernel)) ggX7_writeAll_X7_sayWord
set_option maxRecDepth 20000 in
theorem ggX7_writeAll_X7_sayName : GoodIn wsX7_writeAll wsX7_sayName := goodIn_r _ [39, 3, 40, 41, 42, 31, 32, 33, 18, 34, 35, 1, 52, 53, 54, 55, 56, 57, 58, 59, 60, 61, 62, 63, 64, 65, 66, 67, 68, 69, 70, 71, 72, 73, 74, 75, 76, 77, 78, 79, 80, 81, 82, 83, 84] (by decide +kernel) (by decide +kernel)
set_option maxRecDepth 20000 in
theorem gX7_writeAll_X7_sayName : GoodIn wsX7_writeAll (wsV RX7 260 RX7 yX7_sayName wsX7_sayName) := goodIn_app (goodIn_of _ (by decide +kernel)) ggX7_writeAll_X7_sayName
set_option maxRecDepth 20000 in
theorem ggX7_writeAll_X7_sayNumber : GoodIn wsX7_writeAll wsX7_sayNumber := goodIn_r _ [46, 8, 31, 32, 33, 18, 34, 35, 1, 52, 53, 54, 55, 56, 57, 58, 59, 60, 61, 62, 63, 64, 65, 66, 67, 68, 69, 70, 71, 72, 73, 74, 75, 76, 77, 78, 79, 80, 81, 82, 83, 84] (by decide +kernel) (by decide +kernel)
set_option maxRecDepth 20000 in
theorem gX7_writeAll_X7_sayNumber : GoodIn wsX7_writeAll (wsV RX7 263 RX7 yX7_sayNumber wsX7_sayNumber) := goodIn_app (goodIn_of _ (by decide +kernel)) ggX7_writeAll_X7_sayNumber
set_option maxRecDepth 20000 in
theorem ggX7_writeAll_X7_say : GoodIn wsX7_writeAll wsX7_say := goodIn_r _ [34, 35, 1, 52, 53, 54, 55, 56, 57, 58, 59, 60, 61, 62, 63, 64, 65, 66, 67, 68, 69, 70, 71, 72, 73, 74, 75, 76, 77, 78, 79, 80, 81, 82, 83, 84] (by decide +kernel) (by decide +kernel)
set_option maxRecDepth 20000 in
theorem gX7_writeAll_X7_say : GoodIn wsX7_writeAll (wsV RX7 252 RX7 yX7_say wsX7_say) := goodIn_app (goodIn_of _ (by decide +kernel)) ggX7_writeAll_X7_say
set_option maxRecDepth 20000 in
theorem ggX7_writeAll_X7_sayTwo_wsX7_sayTwo_r1 : GoodIn wsX7_writeAll wsX7_sayTwo_r1 := goodIn_r _ [51, 3, 15, 16, 17, 18, 19, 20, 21, 22, 23, 24, 25, 26, 27, 28, 29, 30, 31, 32, 33, 34, 35, 1] (by decide +kernel) (by decide +kernel)
set_option maxRecDepth 20000 in
theorem ggX7_writeAll_X7_sayTwo_wsX7_sayTwo_r2 : GoodIn wsX7_writeAll wsX7_sayTwo_r2 := goodIn_r _ [36, 37, 38, 39, 40, 41, 42] (by decide +kernel) (by decide +kernel)
set_option maxRecDepth 20000 in
theorem ggX7_writeAll_X7_sayTwo_wsX70 : GoodIn wsX7_writeAll wsX70 := goodIn_r _ [52, 53, 54, 55, 56, 57, 58, 59, 60, 61, 62, 63, 64, 65, 66, 67, 68, 69, 70, 71, 72, 73, 74, 75, 76, 77, 78, 79, 80, 81, 82, 83, 84] (by decide +kernel) (by decide +kernel)
set_option maxRecDepth 20000 in
theorem ggX7_writeAll_X7_sayTwo_c : GoodIn wsX7_writeAll [.code yX7_sayTwo cX7_sayTwo 4 none] := goodIn_r _ [50] (by decide +kernel) (by decide +kernel)
set_option maxRecDepth 20000 in
theorem ggX7_writeAll_X7_sayTwo : GoodIn wsX7_writeAll wsX7_sayTwo := goodIn_app ggX7_writeAll_X7_sayTwo_c (goodIn_app (goodIn_app ggX7_writeAll_X7_sayTwo_wsX7_sayTwo_r1 ggX7_writeAll_X7_sayTwo_wsX7_sayTwo_r2) ggX7_writeAll_X7_sayTwo_wsX70)
set_option maxRecDepth 20000 in
theorem gX7_writeAll_X7_sayTwo : GoodIn wsX7_writeAll (wsV RX7 267 RX7 yX7_sayTwo wsX7_sayTwo) := goodIn_app (goodIn_of _ (by decide +kernel)) ggX7_writeAll_X7_sayTwo
theorem dX7_writeAll_0 : decode cX7_writeAll 0 = .ok (.aload_n 0, 1) := by decide +kernel
theorem dX7_writeAll_1 : decode cX7_writeAll 1 = .ok (.iconst 0, 1) := by decide +kernel
theorem dX7_writeAll_2 : decode cX7_writeAll 2 = .ok (.putfield 249, 3) := by decide +kernel
theorem dX7_writeAll_5 : decode cX7_writeAll 5 = .ok (.iconst 0, 1) := by decide +kernel
theorem dX7_writeAll_6 : decode cX7_writeAll 6 = .ok (.istore_n 1, 1) := by decide +kernel
theorem dX7_writeAll_7 : decode cX7_writeAll 7 = .ok (.iload_n 1, 1) := by decide +kernel
theorem dX7_writeAll_8 : decode cX7_writeAll 8 = .ok (.aload_n 0, 1) := by decide +kernel
theorem dX7_writeAll_9 : decode cX7_writeAll 9 = .ok (.getfield 13, 3) := by decide +kernel
theorem dX7_writeAll_12 : decode cX7_writeAll 12 = .ok (.aload_n 0, 1) := by decide +kernel
theorem dX7_writeAll_13 : decode cX7_writeAll 13 = .ok (.getfield 195, 3) := by decide +kernel
theorem dX7_writeAll_16 : decode cX7_writeAll 16 = .ok (.iaload, 1) := by decide +kernel
theorem dX7_writeAll_17 : decode cX7_writeAll 17 = .ok (.if_icmp .ge 77, 3) := by decide +kernel
theorem dX7_writeAll_20 : decode cX7_writeAll 20 = .ok (.bipush 80, 2) := by decide +kernel
theorem dX7_writeAll_22 : decode cX7_writeAll 22 = .ok (.aload_n 0, 1) := by decide +kernel
theorem dX7_writeAll_23 : decode cX7_writeAll 23 = .ok (.getfield 195, 3) := by decide +kernel
theorem dX7_writeAll_26 : decode cX7_writeAll 26 = .ok (.imul, 1) := by decide +kernel
theorem dX7_writeAll_27 : decode cX7_writeAll 27 = .ok (.iload_n 1, 1) := by decide +kernel
theorem dX7_writeAll_28 : decode cX7_writeAll 28 = .ok (.iadd, 1) := by decide +kernel
theorem dX7_writeAll_29 : decode cX7_writeAll 29 = .ok (.istore_n 2, 1) := by decide +kernel
theorem dX7_writeAll_30 : decode cX7_writeAll 30 = .ok (.aload_n 0, 1) := by decide +kernel
theorem dX7_writeAll_31 : decode cX7_writeAll 31 = .ok (.aload_n 0, 1) := by decide +kernel
theorem dX7_writeAll_32 : decode cX7_writeAll 32 = .ok (.getfield 16, 3) := by decide +kernel
theorem dX7_writeAll_35 : decode cX7_writeAll 35 = .ok (.iload_n 2, 1) := by decide +kernel
theorem dX7_writeAll_36 : decode cX7_writeAll 36 = .ok (.iaload, 1) := by decide +kernel
theorem dX7_writeAll_37 : decode cX7_writeAll 37 = .ok (.invokevirtual 257, 3) := by decide +kernel
theorem dX7_writeAll_40 : decode cX7_writeAll 40 = .ok (.aload_n 0, 1) := by decide +kernel
theorem dX7_writeAll_41 : decode cX7_writeAll 41 = .ok (.iload_n 1, 1) := by decide +kernel
theorem dX7_writeAll_42 : decode cX7_writeAll 42 = .ok (.invokevirtual 260, 3) := by decide +kernel
theorem dX7_writeAll_45 : decode cX7_writeAll 45 = .ok (.aload_n 0, 1) := by decide +kernel
theorem dX7_writeAll_46 : decode cX7_writeAll 46 = .ok (.getfield 16, 3) := by decide +kernel
theorem dX7_writeAll_49 : decode cX7_writeAll 49 = .ok (.iload_n 2, 1) := by decide +kernel
theorem dX7_writeAll_50 : decode cX7_writeAll 50 = .ok (.iaload, 1) := by decide +kernel
theorem dX7_writeAll_51 : decode cX7_writeAll 51 = .ok (.iconst 4, 1) := by decide +kernel
theorem dX7_writeAll_52 : decode cX7_writeAll 52 = .ok (.if_icmp .eq 30, 3) := by decide +kernel
theorem dX7_writeAll_55 : decode cX7_writeAll 55 = .ok (.aload_n 0, 1) := by decide +kernel
theorem dX7_writeAll_56 : decode cX7_writeAll 56 = .ok (.aload_n 0, 1) := by decide +kernel
theorem dX7_writeAll_57 : decode cX7_writeAll 57 = .ok (.getfield 26, 3) := by decide +kernel
theorem dX7_writeAll_60 : decode cX7_writeAll 60 = .ok (.iload_n 2, 1) := by decide +kernel
theorem dX7_writeAll_61 : decode cX7_writeAll 61 = .ok (.laload, 1) := by decide +kernel
theorem dX7_writeAll_62 : decode cX7_writeAll 62 = .ok (.ldc2_w 212, 3) := by decide +kernel
theorem dX7_writeAll_65 : decode cX7_writeAll 65 = .ok (.invokevirtual 263, 3) := by decide +kernel
theorem dX7_writeAll_68 : decode cX7_writeAll 68 = .ok (.aload_n 0, 1) := by decide +kernel
theorem dX7_writeAll_69 : decode cX7_writeAll 69 = .ok (.aload_n 0, 1) := by decide +kernel
theorem dX7_writeAll_70 : decode cX7_writeAll 70 = .ok (.getfield 29, 3) := by decide +kernel
theorem dX7_writeAll_73 : decode cX7_writeAll 73 = .ok (.iload_n 2, 1) := by decide +kernel
theorem dX7_writeAll_74 : decode cX7_writeAll 74 = .ok (.iaload, 1) := by decide +kernel
theorem dX7_writeAll_75 : decode cX7_writeAll 75 = .ok (.i2l, 1) := by decide +kernel
theorem dX7_writeAll_76 : decode cX7_writeAll 76 = .ok (.ldc2_w 127, 3) := by decide +kernel
theorem dX7_writeAll_79 : decode cX7_writeAll 79 = .ok (.invokevirtual 263, 3) := by decide +kernel
theorem dX7_writeAll_82 : decode cX7_writeAll 82 = .ok (.aload_n 0, 1) := by decide +kernel
theorem dX7_writeAll_83 : decode cX7_writeAll 83 = .ok (.bipush 10, 2) := by decide +kernel
theorem dX7_writeAll_85 : decode cX7_writeAll 85 = .ok (.invokevirtual 252, 3) := by decide +kernel
theorem dX7_writeAll_88 : decode cX7_writeAll 88 = .ok (.iinc 1 1, 3) := by decide +kernel
theorem dX7_writeAll_91 : decode cX7_writeAll 91 = .ok (.goto (-84), 3) := by decide +kernel
theorem dX7_writeAll_94 : decode cX7_writeAll 94 = .ok (.bipush 22, 2) := by decide +kernel
theorem dX7_writeAll_96 : decode cX7_writeAll 96 = .ok (.aload_n 0, 1) := by decide +kernel
theorem dX7_writeAll_97 : decode cX7_writeAll 97 = .ok (.getfield 195, 3) := by decide +kernel
theorem dX7_writeAll_100 : decode cX7_writeAll 100 = .ok (.imul, 1) := by decide +kernel
theorem dX7_writeAll_101 : decode cX7_writeAll 101 = .ok (.istore_n 1, 1) := by decide +kernel
theorem dX7_writeAll_102 : decode cX7_writeAll 102 = .ok (.iload_n 1, 1) := by decide +kernel
theorem dX7_writeAll_103 : decode cX7_writeAll 103 = .ok (.bipush 22, 2) := by decide +kernel
theorem dX7_writeAll_105 : decode cX7_writeAll 105 = .ok (.aload_n 0, 1) := by decide +kernel
theorem dX7_writeAll_106 : decode cX7_writeAll 106 = .ok (.getfield 195, 3) := by decide +kernel
theorem dX7_writeAll_109 : decode cX7_writeAll 109 = .ok (.imul, 1) := by decide +kernel
theorem dX7_writeAll_110 : decode cX7_writeAll 110 = .ok (.aload_n 0, 1) := by decide +kernel
theorem dX7_writeAll_111 : decode cX7_writeAll 111 = .ok (.getfield 38, 3) := by decide +kernel
theorem dX7_writeAll_114 : decode cX7_writeAll 114 = .ok (.aload_n 0, 1) := by decide +kernel
theorem dX7_writeAll_115 : decode cX7_writeAll 115 = .ok (.getfield 195, 3) := by decide +kernel
theorem dX7_writeAll_118 : decode cX7_writeAll 118 = .ok (.iaload, 1) := by decide +kernel
theorem dX7_writeAll_119 : decode cX7_writeAll 119 = .ok (.iadd, 1) := by decide +kernel
theorem dX7_writeAll_120 : decode cX7_writeAll 120 = .ok (.iconst 1, 1) := by decide +kernel
theorem dX7_writeAll_121 : decode cX7_writeAll 121 = .ok (.isub, 1) := by decide +kernel
theorem dX7_writeAll_122 : decode cX7_writeAll 122 = .ok (.if_icmp .ge 26, 3) := by decide +kernel
theorem dX7_writeAll_125 : decode cX7_writeAll 125 = .ok (.aload_n 0, 1) := by decide +kernel
theorem dX7_writeAll_126 : decode cX7_writeAll 126 = .ok (.iconst 5, 1) := by decide +kernel
theorem dX7_writeAll_127 : decode cX7_writeAll 127 = .ok (.aload_n 0, 1) := by decide +kernel
theorem dX7_writeAll_128 : decode cX7_writeAll 128 = .ok (.getfield 41, 3) := by decide +kernel
theorem dX7_writeAll_131 : decode cX7_writeAll 131 = .ok (.iload_n 1, 1) := by decide +kernel
theorem dX7_writeAll_132 : decode cX7_writeAll 132 = .ok (.iaload, 1) := by decide +kernel
theorem dX7_writeAll_133 : decode cX7_writeAll 133 = .ok (.aload_n 0, 1) := by decide +kernel
theorem dX7_writeAll_134 : decode cX7_writeAll 134 = .ok (.getfield 44, 3) := by decide +kernel
theorem dX7_writeAll_137 : decode cX7_writeAll 137 = .ok (.iload_n 1, 1) := by decide +kernel
theorem dX7_writeAll_138 : decode cX7_writeAll 138 = .ok (.iaload, 1) := by decide +kernel
theorem dX7_writeAll_139 : decode cX7_writeAll 139 = .ok (.invokevirtual 267, 3) := by decide +kernel
theorem dX7_writeAll_142 : decode cX7_writeAll 142 = .ok (.iinc 1 1, 3) := by decide +kernel
theorem dX7_writeAll_145 : decode cX7_writeAll 145 = .ok (.goto (-43), 3) := by decide +kernel
theorem dX7_writeAll_148 : decode cX7_writeAll 148 = .ok (.bipush 40, 2) := by decide +kernel
theorem dX7_writeAll_150 : decode cX7_writeAll 150 = .ok (.aload_n 0, 1) := by decide +kernel
theorem dX7_writeAll_151 : decode cX7_writeAll 151 = .ok (.getfield 195, 3) := by decide +kernel
theorem dX7_writeAll_154 : decode cX7_writeAll 154 = .ok (.imul, 1) := by decide +kernel
theorem dX7_writeAll_155 : decode cX7_writeAll 155 = .ok (.istore_n 1, 1) := by decide +kernel
theorem dX7_writeAll_156 : decode cX7_writeAll 156 = .ok (.iload_n 1, 1) := by decide +kernel
theorem dX7_writeAll_157 : decode cX7_writeAll 157 = .ok (.bipush 40, 2) := by decide +kernel
theorem dX7_writeAll_159 : decode cX7_writeAll 159 = .ok (.aload_n 0, 1) := by decide +kernel
theorem dX7_writeAll_160 : decode cX7_writeAll 160 = .ok (.getfield 195, 3) := by decide +kernel
theorem dX7_writeAll_163 : decode cX7_writeAll 163 = .ok (.imul, 1) := by decide +kernel
theorem dX7_writeAll_164 : decode cX7_writeAll 164 = .ok (.aload_n 0, 1) := by decide +kernel
theorem dX7_writeAll_165 : decode cX7_writeAll 165 = .ok (.getfield 47, 3) := by decide +kernel
theorem dX7_writeAll_168 : decode cX7_writeAll 168 = .ok (.aload_n 0, 1) := by decide +kernel
theorem dX7_writeAll_169 : decode cX7_writeAll 169 = .ok (.getfield 195, 3) := by decide +kernel
theorem dX7_writeAll_172 : decode cX7_writeAll 172 = .ok (.iaload, 1) := by decide +kernel
theorem dX7_writeAll_173 : decode cX7_writeAll 173 = .ok (.iadd, 1) := by decide +kernel
theorem dX7_writeAll_174 : decode cX7_writeAll 174 = .ok (.if_icmp .ge 27, 3) := by decide +kernel
theorem dX7_writeAll_177 : decode cX7_writeAll 177 = .ok (.aload_n 0, 1) := by decide +kernel
theorem dX7_writeAll_178 : decode cX7_writeAll 178 = .ok (.bipush 6, 2) := by decide +kernel
theorem dX7_writeAll_180 : decode cX7_writeAll 180 = .ok (.aload_n 0, 1) := by decide +kernel
theorem dX7_writeAll_181 : decode cX7_writeAll 181 = .ok (.getfield 50, 3) := by decide +kernel
theorem dX7_writeAll_184 : decode cX7_writeAll 184 = .ok (.iload_n 1, 1) := by decide +kernel
theorem dX7_writeAll_185 : decode cX7_writeAll 185 = .ok (.iaload, 1) := by decide +kernel
theorem dX7_writeAll_186 : decode cX7_writeAll 186 = .ok (.aload_n 0, 1) := by decide +kernel
theorem dX7_writeAll_187 : decode cX7_writeAll 187 = .ok (.getfield 53, 3) := by decide +kernel
theorem dX7_writeAll_190 : decode cX7_writeAll 190 = .ok (.iload_n 1, 1) := by decide +kernel
theorem dX7_writeAll_191 : decode cX7_writeAll 191 = .ok (.iaload, 1) := by decide +kernel
theorem dX7_writeAll_192 : decode cX7_writeAll 192 = .ok (.invokevirtual 267, 3) := by decide +kernel
theorem dX7_writeAll_195 : decode cX7_writeAll 195 = .ok (.iinc 1 1, 3) := by decide +kernel
theorem dX7_writeAll_198 : decode cX7_writeAll 198 = .ok (.goto (-42), 3) := by decide +kernel
theorem dX7_writeAll_201 : decode cX7_writeAll 201 = .ok (.return_, 1) := by decide +kernel
set_option maxRecDepth 20000 in
theorem ggX7_sayTwo_X7_sayWord : GoodIn wsX7_sayTwo wsX7_sayWord := goodIn_r _ [7, 8, 9, 6, 10, 11, 12, 13, 14, 15, 16, 17, 18, 19, 20, 21, 22, 23, 24, 32, 33, 34, 35, 36, 37, 38, 39, 40, 41, 42, 43, 44, 45, 46, 47, 48, 49, 50, 51, 52, 53, 54, 55, 56, 57, 58, 59, 60, 61, 62, 63, 64] (by decide +kernel) (by decide +kernel)
set_option maxRecDepth 20000 in
theorem gX7_sayTwo_X7_sayWord : GoodIn wsX7_sayTwo (wsV RX7 257 RX7 yX7_sayWord wsX7_sayWord) := goodIn_app (goodIn_of _ (by decide +kernel)) ggX7_sayTwo_X7_sayWord
set_option maxRecDepth 20000 in
theorem ggX7_sayTwo_X7_sayName : GoodIn wsX7_sayTwo wsX7_sayName := goodIn_r _ [28, 2, 29, 30, 31, 19, 20, 21, 6, 22, 23, 24, 32, 33, 34, 35, 36, 37, 38, 39, 40, 41, 42, 43, 44, 45, 46, 47, 48, 49, 50, 51, 52, 53, 54, 55, 56, 57, 58, 59, 60, 61, 62, 63, 64] (by decide +kernel) (by decide +kernel)
set_option maxRecDepth 20000 in
theorem gX7_sayTwo_X7_sayName : GoodIn wsX7_sayTwo (wsV RX7 260 RX7 yX7_sayName wsX7_sayName) := goodIn_app (goodIn_of _ (by decide +kernel)) ggX7_sayTwo_X7_sayName
set_option maxRecDepth 20000 in
theorem ggX7_sayTwo_X7_say : GoodIn wsX7_sayTwo wsX7_say := goodIn_r _ [22, 23, 24, 32, 33, 34, 35, 36, 37, 38, 39, 40, 41, 42, 43, 44, 45, 46, 47, 48, 49, 50, 51, 52, 53, 54, 55, 56, 57, 58, 59, 60, 61, 62, 63, 64] (by decide +kernel) (by decide +kernel)
set_option maxRecDepth 20000 in
theorem gX7_sayTwo_X7_say : GoodIn wsX7_sayTwo (wsV RX7 252 RX7 yX7_say wsX7_say) := goodIn_app (goodIn_of _ (by decide +kernel)) ggX7_sayTwo_X7_say
theorem dX7_sayTwo_0 : decode cX7_sayTwo 0 = .ok (.aload_n 0, 1) := by decide +kernel
theorem dX7_sayTwo_1 : decode cX7_sayTwo 1 = .ok (.iload_n 1, 1) := by decide +kernel
theorem dX7_sayTwo_2 : decode cX7_sayTwo 2 = .ok (.invokevirtual 257, 3) := by decide +kernel
theorem dX7_sayTwo_5 : decode cX7_sayTwo 5 = .ok (.aload_n 0, 1) := by decide +kernel
theorem dX7_sayTwo_6 : decode cX7_sayTwo 6 = .ok (.aload_n 0, 1) := by decide +kernel
theorem dX7_sayTwo_7 : decode cX7_sayTwo 7 = .ok (.getfield 35, 3) := by decide +kernel
theorem dX7_sayTwo_10 : decode cX7_sayTwo 10 = .ok (.bipush 32, 2) := by decide +kernel
theorem dX7_sayTwo_12 : decode cX7_sayTwo 12 = .ok (.aload_n 0, 1) := by decide +kernel
theorem dX7_sayTwo_13 : decode cX7_sayTwo 13 = .ok (.getfield 195, 3) := by decide +kernel
theorem dX7_sayTwo_16 : decode cX7_sayTwo 16 = .ok (.imul, 1) := by decide +kernel
theorem dX7_sayTwo_17 : decode cX7_sayTwo 17 = .ok (.iload_n 2, 1) := by decide +kernel
theorem dX7_sayTwo_18 : decode cX7_sayTwo 18 = .ok (.iadd, 1) := by decide +kernel
theorem dX7_sayTwo_19 : decode cX7_sayTwo 19 = .ok (.iaload, 1) := by decide +kernel
theorem dX7_sayTwo_20 : decode cX7_sayTwo 20 = .ok (.invokevirtual 260, 3) := by decide +kernel
theorem dX7_sayTwo_23 : decode cX7_sayTwo 23 = .ok (.aload_n 0, 1) := by decide +kernel
theorem dX7_sayTwo_24 : decode cX7_sayTwo 24 = .ok (.aload_n 0, 1) := by decide +kernel
theorem dX7_sayTwo_25 : decode cX7_sayTwo 25 = .ok (.getfield 35, 3) := by decide +kernel
theorem dX7_sayTwo_28 : decode cX7_sayTwo 28 = .ok (.bipush 32, 2) := by decide +kernel
theorem dX7_sayTwo_30 : decode cX7_sayTwo 30 = .ok (.aload_n 0, 1) := by decide +kernel
theorem dX7_sayTwo_31 : decode cX7_sayTwo 31 = .ok (.getfield 195, 3) := by decide +kernel
theorem dX7_sayTwo_34 : decode cX7_sayTwo 34 = .ok (.imul, 1) := by decide +kernel
theorem dX7_sayTwo_35 : decode cX7_sayTwo 35 = .ok (.iload_n 3, 1) := by decide +kernel
theorem dX7_sayTwo_36 : decode cX7_sayTwo 36 = .ok (.iadd, 1) := by decide +kernel
theorem dX7_sayTwo_37 : decode cX7_sayTwo 37 = .ok (.iaload, 1) := by decide +kernel
theorem dX7_sayTwo_38 : decode cX7_sayTwo 38 = .ok (.invokevirtual 260, 3) := by decide +kernel
theorem dX7_sayTwo_41 : decode cX7_sayTwo 41 = .ok (.aload_n 0, 1) := by decide +kernel
theorem dX7_sayTwo_42 : decode cX7_sayTwo 42 = .ok (.bipush 10, 2) := by decide +kernel
theorem dX7_sayTwo_44 : decode cX7_sayTwo 44 = .ok (.invokevirtual 252, 3) := by decide +kernel
theorem dX7_sayTwo_47 : decode cX7_sayTwo 47 = .ok (.return_, 1) := by decide +kernel
set_option maxRecDepth 20000 in
theorem ggX7_write_X7_writeAll_wsX7_writeAll_r1 : GoodIn wsX7_write wsX7_writeAll_r1 := goodIn_r _ [3, 10, 11, 12, 13, 14, 15, 16, 17, 18, 19, 20, 21, 22, 23, 24, 25, 8, 26, 27, 28, 29, 30, 31] (by decide +kernel) (by decide +kernel)
set_option maxRecDepth 20000 in
theorem ggX7_write_X7_writeAll_wsX7_writeAll_r2 : GoodIn wsX7_write wsX7_writeAll_r2 := goodIn_r _ [32, 33, 34, 35, 36, 37, 38, 39, 40, 41, 4, 42, 43, 44, 45, 46, 47, 48, 49, 50, 51, 52, 53, 54] (by decide +kernel) (by decide +kernel)
set_option maxRecDepth 20000 in
theorem ggX7_write_X7_writeAll_wsX7_writeAll_r3 : GoodIn wsX7_write wsX7_writeAll_r3 := goodIn_r _ [55, 56, 57] (by decide +kernel) (by decide +kernel)
set_option maxRecDepth 20000 in
theorem ggX7_write_X7_writeAll_wsX70 : GoodIn wsX7_write wsX70 := goodIn_r _ [58, 59, 60, 61, 62, 63, 64, 65, 66, 67, 68, 69, 70, 71, 72, 73, 74, 75, 76, 77, 78, 79, 80, 81, 82, 83, 84, 85, 86, 87, 88, 89, 90] (by decide +kernel) (by decide +kernel)
set_option maxRecDepth 20000 in
theorem ggX7_write_X7_writeAll_c : GoodIn wsX7_write [.code yX7_writeAll cX7_writeAll 3 none] := goodIn_r _ [9] (by decide +kernel) (by decide +kernel)
set_option maxRecDepth 20000 in
theorem ggX7_write_X7_writeAll : GoodIn wsX7_write wsX7_writeAll := goodIn_app ggX7_write_X7_writeAll_c (goodIn_app (goodIn_app ggX7_write_X7_writeAll_wsX7_writeAll_r1 (goodIn_app ggX7_write_X7_writeAll_wsX7_writeAll_r2 ggX7_write_X7_writeAll_wsX7_writeAll_r3)) ggX7_write_X7_writeAll_wsX70)
set_option maxRecDepth 20000 in
theorem gX7_write_X7_writeAll : GoodIn wsX7_write (wsV RX7 271 RX7 yX7_writeAll wsX7_writeAll) := goodIn_app (goodIn_of _ (by decide +kernel)) ggX7_write_X7_writeAll
theorem dX7_write_0 : decode cX7_write 0 = .ok (.aload_n 0, 1) := by decide +kernel
theorem dX7_write_1 : decode cX7_write 1 = .ok (.iload_n 1, 1) := by decide +kernel
theorem dX7_write_2 : decode cX7_write 2 = .ok (.ifCond .ge 7, 3) := by decide +kernel
theorem dX7_write_5 : decode cX7_write 5 = .ok (.iconst 1, 1) := by decide +kernel
theorem dX7_write_6 : decode cX7_write 6 = .ok (.goto 15, 3) := by decide +kernel
theorem dX7_write_9 : decode cX7_write 9 = .ok (.aload_n 0, 1) := by decide +kernel
theorem dX7_write_10 : decode cX7_write 10 = .ok (.getfield 201, 3) := by decide +kernel
theorem dX7_write_13 : decode cX7_write 13 = .ok (.ifCond .eq 7, 3) := by decide +kernel
theorem dX7_write_16 : decode cX7_write 16 = .ok (.iconst 0, 1) := by decide +kernel
theorem dX7_write_17 : decode cX7_write 17 = .ok (.goto 4, 3) := by decide +kernel
theorem dX7_write_20 : decode cX7_write 20 = .ok (.iconst 2, 1) := by decide +kernel
theorem dX7_write_21 : decode cX7_write 21 = .ok (.putfield 72, 3) := by decide +kernel
theorem dX7_write_24 : decode cX7_write 24 = .ok (.aload_n 0, 1) := by decide +kernel
theorem dX7_write_25 : decode cX7_write 25 = .ok (.getfield 72, 3) := by decide +kernel
theorem dX7_write_28 : decode cX7_write 28 = .ok (.ifCond .eq 5, 3) := by decide +kernel
theorem dX7_write_31 : decode cX7_write 31 = .ok (.iconst 0, 1) := by decide +kernel
theorem dX7_write_32 : decode cX7_write 32 = .ok (.ireturn, 1) := by decide +kernel
theorem dX7_write_33 : decode cX7_write 33 = .ok (.aload_n 0, 1) := by decide +kernel
theorem dX7_write_34 : decode cX7_write 34 = .ok (.invokevirtual 271, 3) := by decide +kernel
theorem dX7_write_37 : decode cX7_write 37 = .ok (.iload_n 1, 1) := by decide +kernel
theorem dX7_write_38 : decode cX7_write 38 = .ok (.aload_n 0, 1) := by decide +kernel
theorem dX7_write_39 : decode cX7_write 39 = .ok (.getfield 249, 3) := by decide +kernel
theorem dX7_write_42 : decode cX7_write 42 = .ok (.if_icmp .ge 12, 3) := by decide +kernel
theorem dX7_write_45 : decode cX7_write 45 = .ok (.aload_n 0, 1) := by decide +kernel
theorem dX7_write_46 : decode cX7_write 46 = .ok (.getfield 69, 3) := by decide +kernel
theorem dX7_write_49 : decode cX7_write 49 = .ok (.iload_n 1, 1) := by decide +kernel
theorem dX7_write_50 : decode cX7_write 50 = .ok (.iaload, 1) := by decide +kernel
theorem dX7_write_51 : decode cX7_write 51 = .ok (.goto 4, 3) := by decide +kernel
theorem dX7_write_54 : decode cX7_write 54 = .ok (.iconst (-1), 1) := by decide +kernel
theorem dX7_write_55 : decode cX7_write 55 = .ok (.ireturn, 1) := by decide +kernel
