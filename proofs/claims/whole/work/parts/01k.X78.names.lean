theorem dX7_list_12 : decode cX7_list 12 = .ok (.iconst 1, 1) := by decide +kernel
theorem dX7_list_13 : decode cX7_list 13 = .ok (.putfield 72, 3) := by decide +kernel
theorem dX7_list_16 : decode cX7_list 16 = .ok (.aload_n 0, 1) := by decide +kernel
theorem dX7_list_17 : decode cX7_list 17 = .ok (.getfield 72, 3) := by decide +kernel
theorem dX7_list_20 : decode cX7_list 20 = .ok (.ifCond .eq 5, 3) := by decide +kernel
theorem dX7_list_23 : decode cX7_list 23 = .ok (.iconst 0, 1) := by decide +kernel
theorem dX7_list_24 : decode cX7_list 24 = .ok (.ireturn, 1) := by decide +kernel
theorem dX7_list_25 : decode cX7_list 25 = .ok (.aload_n 0, 1) := by decide +kernel
theorem dX7_list_26 : decode cX7_list 26 = .ok (.getfield 205, 3) := by decide +kernel
theorem dX7_list_29 : decode cX7_list 29 = .ok (.bipush 8, 2) := by decide +kernel
theorem dX7_list_31 : decode cX7_list 31 = .ok (.if_icmp .ne 5, 3) := by decide +kernel
theorem dX7_list_34 : decode cX7_list 34 = .ok (.iconst (-1), 1) := by decide +kernel
theorem dX7_list_35 : decode cX7_list 35 = .ok (.ireturn, 1) := by decide +kernel
theorem dX7_list_36 : decode cX7_list 36 = .ok (.bipush 80, 2) := by decide +kernel
theorem dX7_list_38 : decode cX7_list 38 = .ok (.aload_n 0, 1) := by decide +kernel
theorem dX7_list_39 : decode cX7_list 39 = .ok (.getfield 205, 3) := by decide +kernel
theorem dX7_list_42 : decode cX7_list 42 = .ok (.imul, 1) := by decide +kernel
theorem dX7_list_43 : decode cX7_list 43 = .ok (.istore_n 1, 1) := by decide +kernel
theorem dX7_list_44 : decode cX7_list 44 = .ok (.iload_n 1, 1) := by decide +kernel
theorem dX7_list_45 : decode cX7_list 45 = .ok (.bipush 80, 2) := by decide +kernel
theorem dX7_list_47 : decode cX7_list 47 = .ok (.aload_n 0, 1) := by decide +kernel
theorem dX7_list_48 : decode cX7_list 48 = .ok (.getfield 205, 3) := by decide +kernel
theorem dX7_list_51 : decode cX7_list 51 = .ok (.imul, 1) := by decide +kernel
theorem dX7_list_52 : decode cX7_list 52 = .ok (.bipush 80, 2) := by decide +kernel
theorem dX7_list_54 : decode cX7_list 54 = .ok (.iadd, 1) := by decide +kernel
theorem dX7_list_55 : decode cX7_list 55 = .ok (.if_icmp .ge 16, 3) := by decide +kernel
theorem dX7_list_58 : decode cX7_list 58 = .ok (.aload_n 0, 1) := by decide +kernel
theorem dX7_list_59 : decode cX7_list 59 = .ok (.getfield 59, 3) := by decide +kernel
theorem dX7_list_62 : decode cX7_list 62 = .ok (.iload_n 1, 1) := by decide +kernel
theorem dX7_list_63 : decode cX7_list 63 = .ok (.iconst 0, 1) := by decide +kernel
theorem dX7_list_64 : decode cX7_list 64 = .ok (.bastore, 1) := by decide +kernel
theorem dX7_list_65 : decode cX7_list 65 = .ok (.iinc 1 1, 3) := by decide +kernel
theorem dX7_list_68 : decode cX7_list 68 = .ok (.goto (-24), 3) := by decide +kernel
theorem dX7_list_71 : decode cX7_list 71 = .ok (.aload_n 0, 1) := by decide +kernel
theorem dX7_list_72 : decode cX7_list 72 = .ok (.dup, 1) := by decide +kernel
theorem dX7_list_73 : decode cX7_list 73 = .ok (.getfield 205, 3) := by decide +kernel
theorem dX7_list_76 : decode cX7_list 76 = .ok (.iconst 1, 1) := by decide +kernel
theorem dX7_list_77 : decode cX7_list 77 = .ok (.iadd, 1) := by decide +kernel
theorem dX7_list_78 : decode cX7_list 78 = .ok (.putfield 205, 3) := by decide +kernel
theorem dX7_list_81 : decode cX7_list 81 = .ok (.aload_n 0, 1) := by decide +kernel
theorem dX7_list_82 : decode cX7_list 82 = .ok (.getfield 205, 3) := by decide +kernel
theorem dX7_list_85 : decode cX7_list 85 = .ok (.iconst 1, 1) := by decide +kernel
theorem dX7_list_86 : decode cX7_list 86 = .ok (.isub, 1) := by decide +kernel
theorem dX7_list_87 : decode cX7_list 87 = .ok (.ireturn, 1) := by decide +kernel
theorem dX7_isList_0 : decode cX7_isList 0 = .ok (.iload_n 1, 1) := by decide +kernel
theorem dX7_isList_1 : decode cX7_isList 1 = .ok (.ifCond .lt 15, 3) := by decide +kernel
theorem dX7_isList_4 : decode cX7_isList 4 = .ok (.iload_n 1, 1) := by decide +kernel
theorem dX7_isList_5 : decode cX7_isList 5 = .ok (.aload_n 0, 1) := by decide +kernel
theorem dX7_isList_6 : decode cX7_isList 6 = .ok (.getfield 205, 3) := by decide +kernel
theorem dX7_isList_9 : decode cX7_isList 9 = .ok (.if_icmp .ge 7, 3) := by decide +kernel
theorem dX7_isList_12 : decode cX7_isList 12 = .ok (.iconst 1, 1) := by decide +kernel
theorem dX7_isList_13 : decode cX7_isList 13 = .ok (.goto 4, 3) := by decide +kernel
theorem dX7_isList_16 : decode cX7_isList 16 = .ok (.iconst 0, 1) := by decide +kernel
theorem dX7_isList_17 : decode cX7_isList 17 = .ok (.ireturn, 1) := by decide +kernel
set_option maxRecDepth 20000 in
theorem ggX7_row_X7_isList : GoodIn wsX7_row wsX7_isList := goodIn_r _ [11, 12, 19, 20, 21, 22, 23, 24, 25, 26, 27, 28, 29, 30, 31, 32, 33, 34, 35, 36, 37, 38, 39, 40, 41, 42, 43, 44, 45, 46, 47, 48, 49, 50, 51] (by decide +kernel) (by decide +kernel)
set_option maxRecDepth 20000 in
theorem gX7_row_X7_isList : GoodIn wsX7_row (wsV RX7 243 RX7 yX7_isList wsX7_isList) := goodIn_app (goodIn_of _ (by decide +kernel)) ggX7_row_X7_isList
set_option maxRecDepth 20000 in
theorem ggX7_row_X7_isLayer : GoodIn wsX7_row wsX7_isLayer := goodIn_r _ [16, 17, 18, 3, 19, 20, 21, 22, 23, 24, 25, 26, 27, 28, 29, 30, 31, 32, 33, 34, 35, 36, 37, 38, 39, 40, 41, 42, 43, 44, 45, 46, 47, 48, 49, 50, 51] (by decide +kernel) (by decide +kernel)
set_option maxRecDepth 20000 in
theorem gX7_row_X7_isLayer : GoodIn wsX7_row (wsV RX7 214 RX7 yX7_isLayer wsX7_isLayer) := goodIn_app (goodIn_of _ (by decide +kernel)) ggX7_row_X7_isLayer
theorem dX7_row_0 : decode cX7_row 0 = .ok (.aload_n 0, 1) := by decide +kernel
theorem dX7_row_1 : decode cX7_row 1 = .ok (.aload_n 0, 1) := by decide +kernel
theorem dX7_row_2 : decode cX7_row 2 = .ok (.iload_n 1, 1) := by decide +kernel
theorem dX7_row_3 : decode cX7_row 3 = .ok (.invokevirtual 243, 3) := by decide +kernel
theorem dX7_row_6 : decode cX7_row 6 = .ok (.ifCond .eq 11, 3) := by decide +kernel
theorem dX7_row_9 : decode cX7_row 9 = .ok (.aload_n 0, 1) := by decide +kernel
theorem dX7_row_10 : decode cX7_row 10 = .ok (.iload_n 2, 1) := by decide +kernel
theorem dX7_row_11 : decode cX7_row 11 = .ok (.invokevirtual 214, 3) := by decide +kernel
theorem dX7_row_14 : decode cX7_row 14 = .ok (.ifCond .ne 7, 3) := by decide +kernel
theorem dX7_row_17 : decode cX7_row 17 = .ok (.iconst 1, 1) := by decide +kernel
theorem dX7_row_18 : decode cX7_row 18 = .ok (.goto 21, 3) := by decide +kernel
theorem dX7_row_21 : decode cX7_row 21 = .ok (.lload_n 3, 1) := by decide +kernel
theorem dX7_row_22 : decode cX7_row 22 = .ok (.lconst 0, 1) := by decide +kernel
theorem dX7_row_23 : decode cX7_row 23 = .ok (.lcmp, 1) := by decide +kernel
theorem dX7_row_24 : decode cX7_row 24 = .ok (.ifCond .lt 10, 3) := by decide +kernel
theorem dX7_row_27 : decode cX7_row 27 = .ok (.lload_n 3, 1) := by decide +kernel
theorem dX7_row_28 : decode cX7_row 28 = .ok (.lload 5, 2) := by decide +kernel
theorem dX7_row_30 : decode cX7_row 30 = .ok (.lcmp, 1) := by decide +kernel
theorem dX7_row_31 : decode cX7_row 31 = .ok (.ifCond .le 7, 3) := by decide +kernel
theorem dX7_row_34 : decode cX7_row 34 = .ok (.iconst 2, 1) := by decide +kernel
theorem dX7_row_35 : decode cX7_row 35 = .ok (.goto 4, 3) := by decide +kernel
theorem dX7_row_38 : decode cX7_row 38 = .ok (.iconst 0, 1) := by decide +kernel
theorem dX7_row_39 : decode cX7_row 39 = .ok (.putfield 72, 3) := by decide +kernel
theorem dX7_row_42 : decode cX7_row 42 = .ok (.aload_n 0, 1) := by decide +kernel
theorem dX7_row_43 : decode cX7_row 43 = .ok (.getfield 72, 3) := by decide +kernel
theorem dX7_row_46 : decode cX7_row 46 = .ok (.ifCond .ne 21, 3) := by decide +kernel
theorem dX7_row_49 : decode cX7_row 49 = .ok (.aload_n 0, 1) := by decide +kernel
theorem dX7_row_50 : decode cX7_row 50 = .ok (.getfield 16, 3) := by decide +kernel
theorem dX7_row_53 : decode cX7_row 53 = .ok (.bipush 80, 2) := by decide +kernel
theorem dX7_row_55 : decode cX7_row 55 = .ok (.aload_n 0, 1) := by decide +kernel
theorem dX7_row_56 : decode cX7_row 56 = .ok (.getfield 195, 3) := by decide +kernel
theorem dX7_row_59 : decode cX7_row 59 = .ok (.imul, 1) := by decide +kernel
theorem dX7_row_60 : decode cX7_row 60 = .ok (.iload_n 2, 1) := by decide +kernel
theorem dX7_row_61 : decode cX7_row 61 = .ok (.iadd, 1) := by decide +kernel
theorem dX7_row_62 : decode cX7_row 62 = .ok (.iaload, 1) := by decide +kernel
theorem dX7_row_63 : decode cX7_row 63 = .ok (.iconst 4, 1) := by decide +kernel
theorem dX7_row_64 : decode cX7_row 64 = .ok (.if_icmp .ne 5, 3) := by decide +kernel
theorem dX7_row_67 : decode cX7_row 67 = .ok (.iconst 0, 1) := by decide +kernel
theorem dX7_row_68 : decode cX7_row 68 = .ok (.ireturn, 1) := by decide +kernel
theorem dX7_row_69 : decode cX7_row 69 = .ok (.bipush 80, 2) := by decide +kernel
theorem dX7_row_71 : decode cX7_row 71 = .ok (.iload_n 1, 1) := by decide +kernel
theorem dX7_row_72 : decode cX7_row 72 = .ok (.imul, 1) := by decide +kernel
theorem dX7_row_73 : decode cX7_row 73 = .ok (.iload_n 2, 1) := by decide +kernel
theorem dX7_row_74 : decode cX7_row 74 = .ok (.iadd, 1) := by decide +kernel
theorem dX7_row_75 : decode cX7_row 75 = .ok (.istore 7, 2) := by decide +kernel
theorem dX7_row_77 : decode cX7_row 77 = .ok (.aload_n 0, 1) := by decide +kernel
theorem dX7_row_78 : decode cX7_row 78 = .ok (.getfield 59, 3) := by decide +kernel
theorem dX7_row_81 : decode cX7_row 81 = .ok (.iload 7, 2) := by decide +kernel
theorem dX7_row_83 : decode cX7_row 83 = .ok (.baload, 1) := by decide +kernel
theorem dX7_row_84 : decode cX7_row 84 = .ok (.ifCond .eq 5, 3) := by decide +kernel
theorem dX7_row_87 : decode cX7_row 87 = .ok (.iconst 0, 1) := by decide +kernel
theorem dX7_row_88 : decode cX7_row 88 = .ok (.ireturn, 1) := by decide +kernel
theorem dX7_row_89 : decode cX7_row 89 = .ok (.aload_n 0, 1) := by decide +kernel
theorem dX7_row_90 : decode cX7_row 90 = .ok (.getfield 59, 3) := by decide +kernel
theorem dX7_row_93 : decode cX7_row 93 = .ok (.iload 7, 2) := by decide +kernel
theorem dX7_row_95 : decode cX7_row 95 = .ok (.iconst 1, 1) := by decide +kernel
theorem dX7_row_96 : decode cX7_row 96 = .ok (.bastore, 1) := by decide +kernel
theorem dX7_row_97 : decode cX7_row 97 = .ok (.aload_n 0, 1) := by decide +kernel
theorem dX7_row_98 : decode cX7_row 98 = .ok (.getfield 63, 3) := by decide +kernel
theorem dX7_row_101 : decode cX7_row 101 = .ok (.iload 7, 2) := by decide +kernel
theorem dX7_row_103 : decode cX7_row 103 = .ok (.lload_n 3, 1) := by decide +kernel
theorem dX7_row_104 : decode cX7_row 104 = .ok (.lastore, 1) := by decide +kernel
theorem dX7_row_105 : decode cX7_row 105 = .ok (.aload_n 0, 1) := by decide +kernel
theorem dX7_row_106 : decode cX7_row 106 = .ok (.getfield 66, 3) := by decide +kernel
theorem dX7_row_109 : decode cX7_row 109 = .ok (.iload 7, 2) := by decide +kernel
theorem dX7_row_111 : decode cX7_row 111 = .ok (.lload 5, 2) := by decide +kernel
theorem dX7_row_113 : decode cX7_row 113 = .ok (.lastore, 1) := by decide +kernel
theorem dX7_row_114 : decode cX7_row 114 = .ok (.iconst 1, 1) := by decide +kernel
theorem dX7_row_115 : decode cX7_row 115 = .ok (.ireturn, 1) := by decide +kernel
theorem dX7_changesOf_0 : decode cX7_changesOf 0 = .ok (.iconst 0, 1) := by decide +kernel
theorem dX7_changesOf_1 : decode cX7_changesOf 1 = .ok (.istore_n 2, 1) := by decide +kernel
theorem dX7_changesOf_2 : decode cX7_changesOf 2 = .ok (.iconst 0, 1) := by decide +kernel
theorem dX7_changesOf_3 : decode cX7_changesOf 3 = .ok (.istore_n 3, 1) := by decide +kernel
theorem dX7_changesOf_4 : decode cX7_changesOf 4 = .ok (.iload_n 3, 1) := by decide +kernel
theorem dX7_changesOf_5 : decode cX7_changesOf 5 = .ok (.aload_n 0, 1) := by decide +kernel
theorem dX7_changesOf_6 : decode cX7_changesOf 6 = .ok (.getfield 13, 3) := by decide +kernel
theorem dX7_changesOf_9 : decode cX7_changesOf 9 = .ok (.aload_n 0, 1) := by decide +kernel
theorem dX7_changesOf_10 : decode cX7_changesOf 10 = .ok (.getfield 195, 3) := by decide +kernel
theorem dX7_changesOf_13 : decode cX7_changesOf 13 = .ok (.iaload, 1) := by decide +kernel
theorem dX7_changesOf_14 : decode cX7_changesOf 14 = .ok (.if_icmp .ge 107, 3) := by decide +kernel
theorem dX7_changesOf_17 : decode cX7_changesOf 17 = .ok (.bipush 80, 2) := by decide +kernel
theorem dX7_changesOf_19 : decode cX7_changesOf 19 = .ok (.iload_n 1, 1) := by decide +kernel
theorem dX7_changesOf_20 : decode cX7_changesOf 20 = .ok (.imul, 1) := by decide +kernel
theorem dX7_changesOf_21 : decode cX7_changesOf 21 = .ok (.iload_n 3, 1) := by decide +kernel
theorem dX7_changesOf_22 : decode cX7_changesOf 22 = .ok (.iadd, 1) := by decide +kernel
theorem dX7_changesOf_23 : decode cX7_changesOf 23 = .ok (.istore 4, 2) := by decide +kernel
theorem dX7_changesOf_25 : decode cX7_changesOf 25 = .ok (.aload_n 0, 1) := by decide +kernel
theorem dX7_changesOf_26 : decode cX7_changesOf 26 = .ok (.getfield 26, 3) := by decide +kernel
theorem dX7_changesOf_29 : decode cX7_changesOf 29 = .ok (.bipush 80, 2) := by decide +kernel
theorem dX7_changesOf_31 : decode cX7_changesOf 31 = .ok (.aload_n 0, 1) := by decide +kernel
theorem dX7_changesOf_32 : decode cX7_changesOf 32 = .ok (.getfield 195, 3) := by decide +kernel
theorem dX7_changesOf_35 : decode cX7_changesOf 35 = .ok (.imul, 1) := by decide +kernel
theorem dX7_changesOf_36 : decode cX7_changesOf 36 = .ok (.iload_n 3, 1) := by decide +kernel
theorem dX7_changesOf_37 : decode cX7_changesOf 37 = .ok (.iadd, 1) := by decide +kernel
theorem dX7_changesOf_38 : decode cX7_changesOf 38 = .ok (.laload, 1) := by decide +kernel
theorem dX7_changesOf_39 : decode cX7_changesOf 39 = .ok (.lstore 5, 2) := by decide +kernel
theorem dX7_changesOf_41 : decode cX7_changesOf 41 = .ok (.aload_n 0, 1) := by decide +kernel
theorem dX7_changesOf_42 : decode cX7_changesOf 42 = .ok (.getfield 59, 3) := by decide +kernel
theorem dX7_changesOf_45 : decode cX7_changesOf 45 = .ok (.iload 4, 2) := by decide +kernel
theorem dX7_changesOf_47 : decode cX7_changesOf 47 = .ok (.baload, 1) := by decide +kernel
theorem dX7_changesOf_48 : decode cX7_changesOf 48 = .ok (.ifCond .eq 33, 3) := by decide +kernel
theorem dX7_changesOf_51 : decode cX7_changesOf 51 = .ok (.lload 5, 2) := by decide +kernel
theorem dX7_changesOf_53 : decode cX7_changesOf 53 = .ok (.aload_n 0, 1) := by decide +kernel
theorem dX7_changesOf_54 : decode cX7_changesOf 54 = .ok (.getfield 63, 3) := by decide +kernel
theorem dX7_changesOf_57 : decode cX7_changesOf 57 = .ok (.iload 4, 2) := by decide +kernel
theorem dX7_changesOf_59 : decode cX7_changesOf 59 = .ok (.laload, 1) := by decide +kernel
theorem dX7_changesOf_60 : decode cX7_changesOf 60 = .ok (.lcmp, 1) := by decide +kernel
theorem dX7_changesOf_61 : decode cX7_changesOf 61 = .ok (.ifCond .lt 20, 3) := by decide +kernel
theorem dX7_changesOf_64 : decode cX7_changesOf 64 = .ok (.lload 5, 2) := by decide +kernel
theorem dX7_changesOf_66 : decode cX7_changesOf 66 = .ok (.aload_n 0, 1) := by decide +kernel
theorem dX7_changesOf_67 : decode cX7_changesOf 67 = .ok (.getfield 66, 3) := by decide +kernel
theorem dX7_changesOf_70 : decode cX7_changesOf 70 = .ok (.iload 4, 2) := by decide +kernel
theorem dX7_changesOf_72 : decode cX7_changesOf 72 = .ok (.laload, 1) := by decide +kernel
theorem dX7_changesOf_73 : decode cX7_changesOf 73 = .ok (.lcmp, 1) := by decide +kernel
theorem dX7_changesOf_74 : decode cX7_changesOf 74 = .ok (.ifCond .gt 7, 3) := by decide +kernel
theorem dX7_changesOf_77 : decode cX7_changesOf 77 = .ok (.iconst 1, 1) := by decide +kernel
theorem dX7_changesOf_78 : decode cX7_changesOf 78 = .ok (.goto 4, 3) := by decide +kernel
theorem dX7_changesOf_81 : decode cX7_changesOf 81 = .ok (.iconst 0, 1) := by decide +kernel
theorem dX7_changesOf_82 : decode cX7_changesOf 82 = .ok (.istore 7, 2) := by decide +kernel
theorem dX7_changesOf_84 : decode cX7_changesOf 84 = .ok (.iload_n 2, 1) := by decide +kernel
theorem dX7_changesOf_85 : decode cX7_changesOf 85 = .ok (.aload_n 0, 1) := by decide +kernel
theorem dX7_changesOf_86 : decode cX7_changesOf 86 = .ok (.getfield 16, 3) := by decide +kernel
theorem dX7_changesOf_89 : decode cX7_changesOf 89 = .ok (.bipush 80, 2) := by decide +kernel
theorem dX7_changesOf_91 : decode cX7_changesOf 91 = .ok (.aload_n 0, 1) := by decide +kernel
theorem dX7_changesOf_92 : decode cX7_changesOf 92 = .ok (.getfield 195, 3) := by decide +kernel
theorem dX7_changesOf_95 : decode cX7_changesOf 95 = .ok (.imul, 1) := by decide +kernel
theorem dX7_changesOf_96 : decode cX7_changesOf 96 = .ok (.iload_n 3, 1) := by decide +kernel
theorem dX7_changesOf_97 : decode cX7_changesOf 97 = .ok (.iadd, 1) := by decide +kernel
theorem dX7_changesOf_98 : decode cX7_changesOf 98 = .ok (.iaload, 1) := by decide +kernel
theorem dX7_changesOf_99 : decode cX7_changesOf 99 = .ok (.iconst 4, 1) := by decide +kernel
theorem dX7_changesOf_100 : decode cX7_changesOf 100 = .ok (.if_icmp .eq 12, 3) := by decide +kernel
theorem dX7_changesOf_103 : decode cX7_changesOf 103 = .ok (.iload 7, 2) := by decide +kernel
theorem dX7_changesOf_105 : decode cX7_changesOf 105 = .ok (.ifCond .ne 7, 3) := by decide +kernel
theorem dX7_changesOf_108 : decode cX7_changesOf 108 = .ok (.iconst 1, 1) := by decide +kernel
theorem dX7_changesOf_109 : decode cX7_changesOf 109 = .ok (.goto 4, 3) := by decide +kernel
theorem dX7_changesOf_112 : decode cX7_changesOf 112 = .ok (.iconst 0, 1) := by decide +kernel
theorem dX7_changesOf_113 : decode cX7_changesOf 113 = .ok (.iadd, 1) := by decide +kernel
theorem dX7_changesOf_114 : decode cX7_changesOf 114 = .ok (.istore_n 2, 1) := by decide +kernel
theorem dX7_changesOf_115 : decode cX7_changesOf 115 = .ok (.iinc 3 1, 3) := by decide +kernel
theorem dX7_changesOf_118 : decode cX7_changesOf 118 = .ok (.goto (-114), 3) := by decide +kernel
theorem dX7_changesOf_121 : decode cX7_changesOf 121 = .ok (.iload_n 2, 1) := by decide +kernel
theorem dX7_changesOf_122 : decode cX7_changesOf 122 = .ok (.ireturn, 1) := by decide +kernel
set_option maxRecDepth 20000 in
theorem ggX7_match_X7_changesOf : GoodIn wsX7_match wsX7_changesOf := goodIn_r _ [7, 8, 9, 10, 11, 12, 13, 14, 15, 16, 17, 18, 19, 20, 21, 22, 23, 24, 25, 26, 27, 28, 29, 30, 31, 32, 33, 34, 35, 36, 37, 38, 39, 40, 41, 42, 43, 44, 45, 46, 47] (by decide +kernel) (by decide +kernel)
set_option maxRecDepth 20000 in
theorem gX7_match_X7_changesOf : GoodIn wsX7_match (wsV RX7 246 RX7 yX7_changesOf wsX7_changesOf) := goodIn_app (goodIn_of _ (by decide +kernel)) ggX7_match_X7_changesOf
theorem dX7_match_0 : decode cX7_match 0 = .ok (.aload_n 0, 1) := by decide +kernel
theorem dX7_match_1 : decode cX7_match 1 = .ok (.iconst 0, 1) := by decide +kernel
theorem dX7_match_2 : decode cX7_match 2 = .ok (.putfield 72, 3) := by decide +kernel
theorem dX7_match_5 : decode cX7_match 5 = .ok (.iconst (-1), 1) := by decide +kernel
theorem dX7_match_6 : decode cX7_match 6 = .ok (.istore_n 1, 1) := by decide +kernel
theorem dX7_match_7 : decode cX7_match 7 = .ok (.iconst 0, 1) := by decide +kernel
theorem dX7_match_8 : decode cX7_match 8 = .ok (.istore_n 2, 1) := by decide +kernel
theorem dX7_match_9 : decode cX7_match 9 = .ok (.iload_n 2, 1) := by decide +kernel
theorem dX7_match_10 : decode cX7_match 10 = .ok (.aload_n 0, 1) := by decide +kernel
theorem dX7_match_11 : decode cX7_match 11 = .ok (.getfield 205, 3) := by decide +kernel
theorem dX7_match_14 : decode cX7_match 14 = .ok (.if_icmp .ge 29, 3) := by decide +kernel
theorem dX7_match_17 : decode cX7_match 17 = .ok (.iload_n 1, 1) := by decide +kernel
theorem dX7_match_18 : decode cX7_match 18 = .ok (.iconst (-1), 1) := by decide +kernel
theorem dX7_match_19 : decode cX7_match 19 = .ok (.if_icmp .eq 16, 3) := by decide +kernel
theorem dX7_match_22 : decode cX7_match 22 = .ok (.aload_n 0, 1) := by decide +kernel
theorem dX7_match_23 : decode cX7_match 23 = .ok (.iload_n 2, 1) := by decide +kernel
theorem dX7_match_24 : decode cX7_match 24 = .ok (.invokevirtual 246, 3) := by decide +kernel
theorem dX7_match_27 : decode cX7_match 27 = .ok (.aload_n 0, 1) := by decide +kernel
theorem dX7_match_28 : decode cX7_match 28 = .ok (.iload_n 1, 1) := by decide +kernel
theorem dX7_match_29 : decode cX7_match 29 = .ok (.invokevirtual 246, 3) := by decide +kernel
theorem dX7_match_32 : decode cX7_match 32 = .ok (.if_icmp .ge 5, 3) := by decide +kernel
theorem dX7_match_35 : decode cX7_match 35 = .ok (.iload_n 2, 1) := by decide +kernel
theorem dX7_match_36 : decode cX7_match 36 = .ok (.istore_n 1, 1) := by decide +kernel
theorem dX7_match_37 : decode cX7_match 37 = .ok (.iinc 2 1, 3) := by decide +kernel
theorem dX7_match_40 : decode cX7_match 40 = .ok (.goto (-31), 3) := by decide +kernel
theorem dX7_match_43 : decode cX7_match 43 = .ok (.iload_n 1, 1) := by decide +kernel
theorem dX7_match_44 : decode cX7_match 44 = .ok (.ireturn, 1) := by decide +kernel
set_option maxRecDepth 20000 in
theorem ggX7_changes_X7_isList : GoodIn wsX7_changes wsX7_isList := goodIn_r _ [6, 7, 19, 20, 21, 22, 23, 24, 25, 26, 27, 28, 29, 30, 31, 32, 33, 34, 35, 36, 37, 38, 39, 40, 41, 42, 43, 44, 45, 46, 47, 48, 49, 50, 51] (by decide +kernel) (by decide +kernel)
set_option maxRecDepth 20000 in
theorem gX7_changes_X7_isList : GoodIn wsX7_changes (wsV RX7 243 RX7 yX7_isList wsX7_isList) := goodIn_app (goodIn_of _ (by decide +kernel)) ggX7_changes_X7_isList
set_option maxRecDepth 20000 in
theorem ggX7_changes_X7_changesOf : GoodIn wsX7_changes wsX7_changesOf := goodIn_r _ [11, 12, 13, 14, 15, 16, 17, 18, 19, 20, 21, 22, 23, 24, 25, 26, 27, 28, 29, 30, 31, 32, 33, 34, 35, 36, 37, 38, 39, 40, 41, 42, 43, 44, 45, 46, 47, 48, 49, 50, 51] (by decide +kernel) (by decide +kernel)
set_option maxRecDepth 20000 in
theorem gX7_changes_X7_changesOf : GoodIn wsX7_changes (wsV RX7 246 RX7 yX7_changesOf wsX7_changesOf) := goodIn_app (goodIn_of _ (by decide +kernel)) ggX7_changes_X7_changesOf
theorem dX7_changes_0 : decode cX7_changes 0 = .ok (.aload_n 0, 1) := by decide +kernel
theorem dX7_changes_1 : decode cX7_changes 1 = .ok (.aload_n 0, 1) := by decide +kernel
theorem dX7_changes_2 : decode cX7_changes 2 = .ok (.iload_n 1, 1) := by decide +kernel
theorem dX7_changes_3 : decode cX7_changes 3 = .ok (.invokevirtual 243, 3) := by decide +kernel
theorem dX7_changes_6 : decode cX7_changes 6 = .ok (.ifCond .eq 7, 3) := by decide +kernel
theorem dX7_changes_9 : decode cX7_changes 9 = .ok (.iconst 0, 1) := by decide +kernel
theorem dX7_changes_10 : decode cX7_changes 10 = .ok (.goto 4, 3) := by decide +kernel
theorem dX7_changes_13 : decode cX7_changes 13 = .ok (.iconst 1, 1) := by decide +kernel
theorem dX7_changes_14 : decode cX7_changes 14 = .ok (.putfield 72, 3) := by decide +kernel
theorem dX7_changes_17 : decode cX7_changes 17 = .ok (.aload_n 0, 1) := by decide +kernel
theorem dX7_changes_18 : decode cX7_changes 18 = .ok (.getfield 72, 3) := by decide +kernel
theorem dX7_changes_21 : decode cX7_changes 21 = .ok (.ifCond .ne 11, 3) := by decide +kernel
theorem dX7_changes_24 : decode cX7_changes 24 = .ok (.aload_n 0, 1) := by decide +kernel
theorem dX7_changes_25 : decode cX7_changes 25 = .ok (.iload_n 1, 1) := by decide +kernel
theorem dX7_changes_26 : decode cX7_changes 26 = .ok (.invokevirtual 246, 3) := by decide +kernel
theorem dX7_changes_29 : decode cX7_changes 29 = .ok (.goto 4, 3) := by decide +kernel
theorem dX7_changes_32 : decode cX7_changes 32 = .ok (.iconst 0, 1) := by decide +kernel
theorem dX7_changes_33 : decode cX7_changes 33 = .ok (.ireturn, 1) := by decide +kernel
theorem dX7_say_0 : decode cX7_say 0 = .ok (.aload_n 0, 1) := by decide +kernel
theorem dX7_say_1 : decode cX7_say 1 = .ok (.getfield 69, 3) := by decide +kernel
theorem dX7_say_4 : decode cX7_say 4 = .ok (.aload_n 0, 1) := by decide +kernel
theorem dX7_say_5 : decode cX7_say 5 = .ok (.getfield 249, 3) := by decide +kernel
theorem dX7_say_8 : decode cX7_say 8 = .ok (.iload_n 1, 1) := by decide +kernel
theorem dX7_say_9 : decode cX7_say 9 = .ok (.iastore, 1) := by decide +kernel
theorem dX7_say_10 : decode cX7_say 10 = .ok (.aload_n 0, 1) := by decide +kernel
theorem dX7_say_11 : decode cX7_say 11 = .ok (.dup, 1) := by decide +kernel
theorem dX7_say_12 : decode cX7_say 12 = .ok (.getfield 249, 3) := by decide +kernel
theorem dX7_say_15 : decode cX7_say 15 = .ok (.iconst 1, 1) := by decide +kernel
theorem dX7_say_16 : decode cX7_say 16 = .ok (.iadd, 1) := by decide +kernel
theorem dX7_say_17 : decode cX7_say 17 = .ok (.putfield 249, 3) := by decide +kernel
theorem dX7_say_20 : decode cX7_say 20 = .ok (.return_, 1) := by decide +kernel
set_option maxRecDepth 20000 in
theorem ggX7_sayWord_X7_letter : GoodIn wsX7_sayWord wsX7_letter := goodIn_r _ [4, 5, 6, 7, 3, 8, 9, 10, 11, 12] (by decide +kernel) (by decide +kernel)
set_option maxRecDepth 20000 in
theorem gX7_sayWord_X7_letter : GoodIn wsX7_sayWord (va_wsS RX7 109 yX7_letter wsX7_letter) := goodIn_app (goodIn_of _ (by decide +kernel)) ggX7_sayWord_X7_letter
set_option maxRecDepth 20000 in
theorem ggX7_sayWord_X7_say : GoodIn wsX7_sayWord wsX7_say := goodIn_r _ [16, 17, 18, 19, 20, 21, 22, 23, 24, 25, 26, 27, 28, 29, 30, 31, 32, 33, 34, 35, 36, 37, 38, 39, 40, 41, 42, 43, 44, 45, 46, 47, 48, 49, 50, 51] (by decide +kernel) (by decide +kernel)
set_option maxRecDepth 20000 in
theorem gX7_sayWord_X7_say : GoodIn wsX7_sayWord (wsV RX7 252 RX7 yX7_say wsX7_say) := goodIn_app (goodIn_of _ (by decide +kernel)) ggX7_sayWord_X7_say
theorem dX7_sayWord_0 : decode cX7_sayWord 0 = .ok (.iconst 0, 1) := by decide +kernel
theorem dX7_sayWord_1 : decode cX7_sayWord 1 = .ok (.istore_n 2, 1) := by decide +kernel
theorem dX7_sayWord_2 : decode cX7_sayWord 2 = .ok (.iload_n 1, 1) := by decide +kernel
theorem dX7_sayWord_3 : decode cX7_sayWord 3 = .ok (.iload_n 2, 1) := by decide +kernel
theorem dX7_sayWord_4 : decode cX7_sayWord 4 = .ok (.invokestatic 109, 3) := by decide +kernel
theorem dX7_sayWord_7 : decode cX7_sayWord 7 = .ok (.ifCond .le 21, 3) := by decide +kernel
theorem dX7_sayWord_10 : decode cX7_sayWord 10 = .ok (.aload_n 0, 1) := by decide +kernel
theorem dX7_sayWord_11 : decode cX7_sayWord 11 = .ok (.bipush 96, 2) := by decide +kernel
theorem dX7_sayWord_13 : decode cX7_sayWord 13 = .ok (.iload_n 1, 1) := by decide +kernel
theorem dX7_sayWord_14 : decode cX7_sayWord 14 = .ok (.iload_n 2, 1) := by decide +kernel
theorem dX7_sayWord_15 : decode cX7_sayWord 15 = .ok (.invokestatic 109, 3) := by decide +kernel
theorem dX7_sayWord_18 : decode cX7_sayWord 18 = .ok (.iadd, 1) := by decide +kernel
theorem dX7_sayWord_19 : decode cX7_sayWord 19 = .ok (.invokevirtual 252, 3) := by decide +kernel
theorem dX7_sayWord_22 : decode cX7_sayWord 22 = .ok (.iinc 2 1, 3) := by decide +kernel
theorem dX7_sayWord_25 : decode cX7_sayWord 25 = .ok (.goto (-23), 3) := by decide +kernel
theorem dX7_sayWord_28 : decode cX7_sayWord 28 = .ok (.return_, 1) := by decide +kernel
set_option maxRecDepth 20000 in
theorem ggX7_sayName_X7_say : GoodIn wsX7_sayName wsX7_say := goodIn_r _ [9, 10, 11, 12, 13, 14, 15, 16, 17, 18, 19, 20, 21, 22, 23, 24, 25, 26, 27, 28, 29, 30, 31, 32, 33, 34, 35, 36, 37, 38, 39, 40, 41, 42, 43, 44] (by decide +kernel) (by decide +kernel)
set_option maxRecDepth 20000 in
theorem gX7_sayName_X7_say : GoodIn wsX7_sayName (wsV RX7 252 RX7 yX7_say wsX7_say) := goodIn_app (goodIn_of _ (by decide +kernel)) ggX7_sayName_X7_say
theorem dX7_sayName_0 : decode cX7_sayName 0 = .ok (.bipush 80, 2) := by decide +kernel
theorem dX7_sayName_2 : decode cX7_sayName 2 = .ok (.aload_n 0, 1) := by decide +kernel
theorem dX7_sayName_3 : decode cX7_sayName 3 = .ok (.getfield 195, 3) := by decide +kernel
theorem dX7_sayName_6 : decode cX7_sayName 6 = .ok (.imul, 1) := by decide +kernel
theorem dX7_sayName_7 : decode cX7_sayName 7 = .ok (.iload_n 1, 1) := by decide +kernel
theorem dX7_sayName_8 : decode cX7_sayName 8 = .ok (.iadd, 1) := by decide +kernel
theorem dX7_sayName_9 : decode cX7_sayName 9 = .ok (.istore_n 2, 1) := by decide +kernel
theorem dX7_sayName_10 : decode cX7_sayName 10 = .ok (.aload_n 0, 1) := by decide +kernel
theorem dX7_sayName_11 : decode cX7_sayName 11 = .ok (.bipush 32, 2) := by decide +kernel
theorem dX7_sayName_13 : decode cX7_sayName 13 = .ok (.invokevirtual 252, 3) := by decide +kernel
theorem dX7_sayName_16 : decode cX7_sayName 16 = .ok (.aload_n 0, 1) := by decide +kernel
theorem dX7_sayName_17 : decode cX7_sayName 17 = .ok (.getfield 23, 3) := by decide +kernel
theorem dX7_sayName_20 : decode cX7_sayName 20 = .ok (.iload_n 2, 1) := by decide +kernel
theorem dX7_sayName_21 : decode cX7_sayName 21 = .ok (.iaload, 1) := by decide +kernel
theorem dX7_sayName_22 : decode cX7_sayName 22 = .ok (.iconst 1, 1) := by decide +kernel
